theorem m_loose {d : Nat} {R : gR} {μ : gM} {n : Int32} {y : Nat} (hok : q_ok (μ 84)) (hy : μ 84 1 = nI y) (hy2 : y ≤ 10000) (h : if 1 ≤ n ∧ n ≤ 40 then (if 9999 < μ 84 1 + n then R (some (.int (-1000000003))) (gc_up μ 87 3 (μ 87 3 + 1)) else ∀ μ', q_fr μ μ' → μ' 84 = q_lo (μ 84) n.toNatClampNeg → R (some (.int (q_sum (fun c => q_lo (μ 84) n.toNatClampNeg (5 + 1 * c)) 16))) μ') else R (some (.int (-1000000001))) (gc_up μ 87 1 (μ 87 1 + 1))) : gc_S (d + 7) 200 [.ref 83, .int n] μ R := by
  simp only [s200, u200_0, u200_1, u200_2, u200_3, u200_6, u200_9, u200_12, u200_13, u200_14, u200_17, u200_18, u200_19, u200_20, u200_23, u200_26, u200_27, u200_28, u200_31, u200_32, u200_33, u200_35, u200_36, u200_39, u200_40, u200_43, u200_45, u200_46, u200_47, u200_48, u200_51, u200_53, u200_54, u200_56, u200_57, u200_60, u200_62, u200_63, u200_66, u200_67, u200_68, u200_70, u200_71, u200_72, u200_73, u200_74, u200_75, u200_76, u200_79, u200_82, u200_83, u200_84, u200_85, u200_87, u200_90, u200_91, u200_94, u200_97, u200_100, u200_101, u200_104, ly_kd, ly_al, ly_fv0, ly_fv1, ly_fv2, ly_fv3, ly_fv4, ly_fk, ly_ra, Option.toList, List.cons_append, List.nil_append, q_ski, q_skr, q_sku, if_true, if_false, m_in, m_isLate, m_f1, m_f3, q_b0, q_not, q_wl0, q_wl1, q_wl48, q_wu1, q_wu2, q_wu3, q_wu5, q_wu6, q_wu7, q_wu8, q_wu15, q_wu30, q_wu40, q_wu57, q_wu60, q_wu69, q_wu99, q_wu1584, fa_wide_le]
  by_cases h1 : 1 ≤ n ∧ n ≤ 40
  · rw [if_pos h1] at h
    obtain ⟨j, hj, rfl⟩ := q_rng (n := 40) rfl ⟨Int32.le_trans (by decide) h1.1, h1.2⟩
    rw [nI_clamp (by omega)] at h
    simp only [h1, and_self, if_true]
    by_cases h2 : 9999 < μ 84 1 + nI j
    · rw [if_pos h2] at h
      simp only [h2, if_true]
      exact h
    · rw [if_neg h2] at h
      simp only [h2, if_false]
      have main : ∀ k c, c + k = j → ∀ μ0, q_fr μ μ0 → μ0 84 = q_lo (μ 84) c → ∀ l3 l4, gc_sk l3 = true → gc_sk l4 = true → gc_W (gc_S (d+6)) cX12_loose 12 0 R 34 [.ref 83, .int (nI j), .int (nI c), l3, l4] [] μ0 := by
        intro k
        induction k with
        | zero =>
          intro c hc μ0 h0 hD l3 l4 h3 h4
          have ec : c = j := hc
          refine (u200_34).mpr ?_
          simp only [u200_0, u200_1, u200_2, u200_3, u200_6, u200_9, u200_12, u200_13, u200_14, u200_17, u200_18, u200_19, u200_20, u200_23, u200_26, u200_27, u200_28, u200_31, u200_32, u200_33, u200_35, u200_36, u200_39, u200_40, u200_43, u200_45, u200_46, u200_47, u200_48, u200_51, u200_53, u200_54, u200_56, u200_57, u200_60, u200_62, u200_63, u200_66, u200_67, u200_68, u200_70, u200_71, u200_72, u200_73, u200_74, u200_75, u200_76, u200_79, u200_82, u200_83, u200_84, u200_85, u200_87, u200_90, u200_91, u200_94, u200_97, u200_100, u200_101, u200_104, show nI j ≤ nI c by rw [ec]; exact Int32.le_refl _, ly_kd, ly_al, ly_fv0, ly_fv1, ly_fv2, ly_fv3, ly_fv4, ly_fk, ly_ra, Option.toList, List.cons_append, List.nil_append, q_ski, q_skr, q_sku, if_true, if_false, m_allWet]
          rw [hD, ec]
          rw [ec] at hD
          exact h μ0 h0 hD
        | succ k ih =>
          intro c hc μ0 h0 hD l3 l4 h3 h4
          obtain ⟨hokc, hyc⟩ := q_ok_lo hok hy c (by omega)
          obtain ⟨okl, yl, nl⟩ := q_ok_ly hokc
          obtain ⟨okb, yb⟩ := q_ok_lb hokc
          obtain ⟨p, hp, ep⟩ := q_y6 hokc
          obtain ⟨w, hw, ew⟩ := q_dz8 (q_z (q_lo (μ 84) c 2))
          obtain ⟨e, he, ee⟩ := q_dz16 (q_z (q_z (q_lo (μ 84) c 2)))
          have a2 : μ0 84 2 = q_lo (μ 84) c 2 := by rw [hD]
          refine (u200_34).mpr ?_
          simp only [u200_0, u200_1, u200_2, u200_3, u200_6, u200_9, u200_12, u200_13, u200_14, u200_17, u200_18, u200_19, u200_20, u200_23, u200_26, u200_27, u200_28, u200_31, u200_32, u200_33, u200_35, u200_36, u200_39, u200_40, u200_43, u200_45, u200_46, u200_47, u200_48, u200_51, u200_53, u200_54, u200_56, u200_57, u200_60, u200_62, u200_63, u200_66, u200_67, u200_68, u200_70, u200_71, u200_72, u200_73, u200_74, u200_75, u200_76, u200_79, u200_82, u200_83, u200_84, u200_85, u200_87, u200_91, u200_94, u200_97, u200_100, u200_101, u200_104, q_nle (show c < j by omega) (by omega) rfl, ly_kd, ly_al, ly_fv0, ly_fv1, ly_fv2, ly_fv3, ly_fv4, ly_fk, ly_ra, Option.toList, List.cons_append, List.nil_append, q_ski, q_skr, q_sku, if_true, if_false, m_draw, a2, q_up_same, ew, ee, h3, h4, show ¬ (8 : Int32) = 0 by decide, show ¬ (16 : Int32) = 0 by decide, show ¬ (6 : Int32) = 0 by decide, not_false_eq_true, true_and, q_v247, q_tn]
          have e1 : gc_up (gc_up μ0 84 2 (q_z (q_lo (μ 84) c 2))) 84 2 (q_z (q_z (q_lo (μ 84) c 2))) 84 1 = q_lo (μ 84) c 1 := by rw [q_up_j (by decide), q_up_j (by decide), hD]
          have g3 : gc_up (gc_up (gc_up μ0 84 2 (q_z (q_lo (μ 84) c 2))) 84 2 (q_z (q_z (q_lo (μ 84) c 2)))) 84 (37 + p) (nI w) 84 = q_ly (q_lo (μ 84) c) := by
            rw [gc_up_eq, gc_up_eq, gc_up_eq, hD]
            unfold q_ly
            rw [ep, nI_clamp (show p < 2 ^ 31 by omega), ew]
          have f3 : q_fr μ0 (gc_up (gc_up (gc_up μ0 84 2 (q_z (q_lo (μ 84) c 2))) 84 2 (q_z (q_z (q_lo (μ 84) c 2)))) 84 (37 + p) (nI w)) := (q_fr_up.tr q_fr_up).tr q_fr_up
          simp only [e1, ep, show (37 : Int32) + nI p = nI (37 + p) from nI_add 37 p, nI_clamp (show 37 + p < 2 ^ 31 by omega), vp_in_nI (show 37 + p < 247 by omega) (by decide), true_and]
          generalize gc_up (gc_up (gc_up μ0 84 2 (q_z (q_lo (μ 84) c 2))) 84 2 (q_z (q_z (q_lo (μ 84) c 2)))) 84 (37 + p) (nI w) = μ3 at g3 f3 ⊢
          have back : ∀ μ4, q_fr μ0 μ4 → μ4 84 = q_lb (q_lo (μ 84) c) → gc_W (gc_S (d+6)) cX12_loose 12 0 R 90 [.ref 83, .int (nI j), .int (nI c), .int (nI w), .int (nI e)] [] μ4 := by
            intro μ4 k4 hD4
            simp only [u200_0, u200_1, u200_2, u200_3, u200_6, u200_9, u200_12, u200_13, u200_14, u200_17, u200_18, u200_19, u200_20, u200_23, u200_26, u200_27, u200_28, u200_31, u200_32, u200_33, u200_35, u200_36, u200_39, u200_40, u200_43, u200_45, u200_46, u200_47, u200_48, u200_51, u200_53, u200_54, u200_56, u200_57, u200_60, u200_62, u200_63, u200_66, u200_67, u200_68, u200_70, u200_71, u200_72, u200_73, u200_74, u200_75, u200_76, u200_79, u200_82, u200_83, u200_84, u200_85, u200_87, u200_90, u200_91, u200_94, u200_97, u200_100, u200_101, u200_104, ly_kd, ly_al, ly_fv0, ly_fv1, ly_fv2, ly_fv3, ly_fv4, ly_fk, ly_ra, Option.toList, List.cons_append, List.nil_append, q_ski, q_skr, q_sku, if_true, if_false]
            refine m_yearGoes (by rw [hD4]; exact okb) (fun μ5 k5 hD5 => ?_)
            simp only [u200_0, u200_1, u200_2, u200_3, u200_6, u200_9, u200_12, u200_13, u200_14, u200_17, u200_18, u200_19, u200_20, u200_23, u200_26, u200_27, u200_28, u200_31, u200_32, u200_33, u200_35, u200_36, u200_39, u200_40, u200_43, u200_45, u200_46, u200_47, u200_48, u200_51, u200_53, u200_54, u200_56, u200_57, u200_60, u200_62, u200_63, u200_66, u200_67, u200_68, u200_70, u200_71, u200_72, u200_73, u200_74, u200_75, u200_76, u200_79, u200_82, u200_83, u200_84, u200_85, u200_87, u200_90, u200_91, u200_94, u200_97, u200_100, u200_101, u200_104, ly_kd, ly_al, ly_fv0, ly_fv1, ly_fv2, ly_fv3, ly_fv4, ly_fk, ly_ra, Option.toList, List.cons_append, List.nil_append, q_ski, q_skr, q_sku, if_true, if_false, nI_1]
            exact ih (c + 1) (by omega) μ5 ((h0.tr k4).tr k5) (by rw [hD5, hD4]; rfl) _ _ rfl rfl
          simp only [m_isMourner, g3, nl]
          have el : q_lb (q_lo (μ 84) c) = if 0 ≤ nI w ∧ nI w ≤ q_lo (μ 84) c 0 - 1 then upd (q_ly (q_lo (μ 84) c)) (46 + 4 * w) (nI e) else q_ly (q_lo (μ 84) c) := by
            unfold q_lb
            rw [ew, ee, nI_clamp (show w < 2 ^ 31 by omega)]
          by_cases hb : 0 ≤ nI w ∧ nI w ≤ q_lo (μ 84) c 0 - 1
          · rw [if_pos hb] at el
            simp only [u200_0, u200_1, u200_2, u200_3, u200_6, u200_9, u200_12, u200_13, u200_14, u200_17, u200_18, u200_19, u200_20, u200_23, u200_26, u200_27, u200_28, u200_31, u200_32, u200_33, u200_35, u200_36, u200_39, u200_40, u200_43, u200_45, u200_46, u200_47, u200_48, u200_51, u200_53, u200_54, u200_56, u200_57, u200_60, u200_62, u200_63, u200_66, u200_67, u200_68, u200_70, u200_71, u200_72, u200_73, u200_74, u200_75, u200_76, u200_79, u200_82, u200_83, u200_84, u200_85, u200_87, u200_91, u200_94, u200_97, u200_100, u200_101, u200_104, ly_kd, ly_al, ly_fv0, ly_fv1, ly_fv2, ly_fv3, ly_fv4, ly_fk, ly_ra, Option.toList, List.cons_append, List.nil_append, q_ski, q_skr, q_sku, if_true, if_false, q_b0, hb, and_self, not_true_eq_false, m_sets, show (43 : Int32) + 4 * nI w + 3 = nI (46 + 4 * w) by rw [q_43, show (3 : Int32) = nI 3 from rfl, nI_add]; congr 1; omega, nI_clamp (show 46 + 4 * w < 2 ^ 31 by omega), vp_in_nI (show 46 + 4 * w < 247 by omega) (by decide), true_and]
            exact back _ (f3.tr q_fr_up) (by rw [gc_up_eq, g3, el])
          · rw [if_neg hb] at el
            simp only [u200_0, u200_1, u200_2, u200_3, u200_6, u200_9, u200_12, u200_13, u200_14, u200_17, u200_18, u200_19, u200_20, u200_23, u200_26, u200_27, u200_28, u200_31, u200_32, u200_33, u200_35, u200_36, u200_39, u200_40, u200_43, u200_45, u200_46, u200_47, u200_48, u200_51, u200_53, u200_54, u200_56, u200_57, u200_60, u200_62, u200_63, u200_66, u200_67, u200_68, u200_70, u200_71, u200_72, u200_73, u200_74, u200_75, u200_76, u200_79, u200_82, u200_83, u200_84, u200_85, u200_87, u200_91, u200_94, u200_97, u200_100, u200_101, u200_104, ly_kd, ly_al, ly_fv0, ly_fv1, ly_fv2, ly_fv3, ly_fv4, ly_fk, ly_ra, Option.toList, List.cons_append, List.nil_append, q_ski, q_skr, q_sku, if_true, if_false, q_b0, hb, not_false_eq_true]
            exact back _ f3 (by rw [g3, el])
      exact main j 0 (by omega) μ q_fr.rf rfl _ _ rfl rfl
  · rw [if_neg h1] at h
    simp only [h1, if_false]
    exact h
