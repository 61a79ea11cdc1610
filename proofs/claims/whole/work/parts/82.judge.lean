def q_jr (f D : Nat → Int32) (m : Nat) : Nat := q_first (fun j => ¬ f j = D (45 + 4 * j)) 0 m
theorem m_judge {d : Nat} {R : gR} {μ : gM} {k z n : Nat} (hk : k < 4) (hz : z ≤ 40) (hlen : μ 99 k = nI z) (hn : μ 84 0 = nI n) (hn8 : n ≤ 8) (hb : ¬ μ 98 k = 0) (h : R (some (.int (if q_jr (fun j => μ 100 (40 * k + j)) (μ 84) (min z n) = z ∧ q_jr (fun j => μ 100 (40 * k + j)) (μ 84) (min z n) = n then -1 else nI (q_jr (fun j => μ 100 (40 * k + j)) (μ 84) (min z n))))) μ) : gc_S (d + 3) 244 [.ref 83, .int (nI k)] μ R := by
  have h1 : 0 ≤ nI k ∧ nI k ≤ 3 := ⟨nI_pos' (by omega), (show nI k ≤ nI 3 from nI_le (by omega) (by omega))⟩
  have vs : vp_in (nI k) 4 := vp_in_nI hk (by decide)
  have cs : (nI k).toNatClampNeg = k := nI_clamp (by omega)
  have hmin : min z n ≤ z ∧ min z n ≤ n ∧ (min z n = z ∨ min z n = n) := by omega
  simp only [s244, u244_0, u244_1, u244_4, u244_7, u244_8, u244_9, u244_12, u244_13, u244_14, u244_17, u244_18, u244_19, u244_22, u244_23, u244_24, u244_27, u244_28, u244_29, u244_31, u244_32, u244_35, u244_36, u244_37, u244_40, u244_41, u244_42, u244_45, u244_46, u244_47, u244_50, u244_51, u244_54, u244_56, u244_57, u244_58, u244_59, u244_60, u244_61, u244_62, u244_63, u244_64, u244_67, u244_70, u244_73, u244_77, u244_78, u244_81, u244_82, u244_83, u244_86, u244_87, u244_88, u244_91, u244_92, u244_93, u244_96, u244_97, u244_100, u244_101, ly_kd, ly_al, ly_fv0, ly_fv1, ly_fv2, ly_fv3, ly_fv4, ly_fk, ly_ra, Option.toList, List.cons_append, List.nil_append, q_ski, q_skr, q_sku, if_true, if_false, m_in, m_isCell, m_isMourner, m_isKm, m_isSheet, m_f1, m_f2, m_f3, m_f4, m_f5, q_b0, q_not, and_self, q_wl0, q_wl1, q_wl48, q_wu1, q_wu2, q_wu3, q_wu5, q_wu6, q_wu7, q_wu8, q_wu15, q_wu30, q_wu40, q_wu57, q_wu60, q_wu69, q_wu99, q_wu1584, fa_wide_le, q_up_o (show (84 : Nat) ≠ 79 by decide), h1, vs, cs, true_and, hb]
  have fin : ∀ c, c = q_jr (fun j => μ 100 (40 * k + j)) (μ 84) (min z n) → c ≤ min z n → gc_W (gc_S (d+2)) cX12_judge 12 0 R 76 [.ref 83, .int (nI k), .int (nI c)] [] μ := by
    intro c hc hle
    rw [← hc] at h
    by_cases e1 : c = z
    · by_cases e2 : c = n
      · rw [if_pos ⟨e1, e2⟩] at h
        simp only [u244_0, u244_1, u244_4, u244_7, u244_8, u244_9, u244_12, u244_13, u244_14, u244_17, u244_18, u244_19, u244_22, u244_23, u244_24, u244_27, u244_28, u244_29, u244_31, u244_32, u244_35, u244_36, u244_37, u244_40, u244_41, u244_42, u244_45, u244_46, u244_47, u244_50, u244_51, u244_54, u244_56, u244_57, u244_58, u244_59, u244_60, u244_61, u244_62, u244_63, u244_64, u244_67, u244_70, u244_73, u244_76, u244_77, u244_78, u244_81, u244_82, u244_83, u244_86, u244_87, u244_88, u244_91, u244_92, u244_93, u244_96, u244_97, u244_100, u244_101, ly_kd, ly_al, ly_fv0, ly_fv1, ly_fv2, ly_fv3, ly_fv4, ly_fk, ly_ra, Option.toList, List.cons_append, List.nil_append, q_ski, q_skr, q_sku, if_true, if_false, vs, cs, true_and, hlen, eq_true (show nI c = nI z by rw [e1]), q_v247, q_tn, hn, eq_true (show nI c = nI n by rw [e2])]
        exact h
      · rw [if_neg (fun q => e2 q.2)] at h
        have e3 : ¬ nI c = nI n := fun q => e2 ((nI_eq (by omega) (by omega)).mp q)
        simp only [u244_0, u244_1, u244_4, u244_7, u244_8, u244_9, u244_12, u244_13, u244_14, u244_17, u244_18, u244_19, u244_22, u244_23, u244_24, u244_27, u244_28, u244_29, u244_31, u244_32, u244_35, u244_36, u244_37, u244_40, u244_41, u244_42, u244_45, u244_46, u244_47, u244_50, u244_51, u244_54, u244_56, u244_57, u244_58, u244_59, u244_60, u244_61, u244_62, u244_63, u244_64, u244_67, u244_70, u244_73, u244_76, u244_77, u244_78, u244_81, u244_82, u244_83, u244_86, u244_87, u244_88, u244_91, u244_92, u244_93, u244_96, u244_97, u244_100, u244_101, ly_kd, ly_al, ly_fv0, ly_fv1, ly_fv2, ly_fv3, ly_fv4, ly_fk, ly_ra, Option.toList, List.cons_append, List.nil_append, q_ski, q_skr, q_sku, if_true, if_false, vs, cs, true_and, hlen, eq_true (show nI c = nI z by rw [e1]), q_v247, q_tn, hn, eq_false e3]
        exact h
    · rw [if_neg (fun q => e1 q.1)] at h
      have e3 : ¬ nI c = nI z := fun q => e1 ((nI_eq (by omega) (by omega)).mp q)
      simp only [u244_0, u244_1, u244_4, u244_7, u244_8, u244_9, u244_12, u244_13, u244_14, u244_17, u244_18, u244_19, u244_22, u244_23, u244_24, u244_27, u244_28, u244_29, u244_31, u244_32, u244_35, u244_36, u244_37, u244_40, u244_41, u244_42, u244_45, u244_46, u244_47, u244_50, u244_51, u244_54, u244_56, u244_57, u244_58, u244_59, u244_60, u244_61, u244_62, u244_63, u244_64, u244_67, u244_70, u244_73, u244_76, u244_77, u244_78, u244_81, u244_82, u244_83, u244_86, u244_87, u244_88, u244_91, u244_92, u244_93, u244_96, u244_97, u244_100, u244_101, ly_kd, ly_al, ly_fv0, ly_fv1, ly_fv2, ly_fv3, ly_fv4, ly_fk, ly_ra, Option.toList, List.cons_append, List.nil_append, q_ski, q_skr, q_sku, if_true, if_false, vs, cs, true_and, hlen, eq_false e3]
      exact h
  have main : ∀ m c, c + m = min z n → q_jr (fun j => μ 100 (40 * k + j)) (μ 84) (min z n) = q_first (fun j => ¬ μ 100 (40 * k + j) = μ 84 (45 + 4 * j)) c m → gc_W (gc_S (d+2)) cX12_judge 12 0 R 30 [.ref 83, .int (nI k), .int (nI c)] [] μ := by
    intro m
    induction m with
    | zero =>
      intro c hc hq
      have hq : q_jr (fun j => μ 100 (40 * k + j)) (μ 84) (min z n) = c := hq
      have f := fin c hq.symm (by omega)
      refine (u244_30).mpr ?_
      by_cases e : z ≤ c
      · simp only [u244_0, u244_1, u244_4, u244_7, u244_8, u244_9, u244_12, u244_13, u244_14, u244_17, u244_18, u244_19, u244_22, u244_23, u244_24, u244_27, u244_28, u244_29, u244_31, u244_32, u244_35, u244_36, u244_37, u244_40, u244_41, u244_42, u244_45, u244_46, u244_47, u244_50, u244_51, u244_54, u244_56, u244_57, u244_58, u244_59, u244_60, u244_61, u244_62, u244_63, u244_64, u244_67, u244_70, u244_73, u244_77, u244_78, u244_81, u244_82, u244_83, u244_86, u244_87, u244_88, u244_91, u244_92, u244_93, u244_96, u244_97, u244_100, u244_101, ly_kd, ly_al, ly_fv0, ly_fv1, ly_fv2, ly_fv3, ly_fv4, ly_fk, ly_ra, Option.toList, List.cons_append, List.nil_append, q_ski, q_skr, q_sku, if_true, if_false, vs, cs, true_and, hlen, show nI z ≤ nI c from nI_le e (by omega)]
        exact f
      · simp only [u244_0, u244_1, u244_4, u244_7, u244_8, u244_9, u244_12, u244_13, u244_14, u244_17, u244_18, u244_19, u244_22, u244_23, u244_24, u244_27, u244_28, u244_29, u244_31, u244_32, u244_35, u244_36, u244_37, u244_40, u244_41, u244_42, u244_45, u244_46, u244_47, u244_50, u244_51, u244_54, u244_56, u244_57, u244_58, u244_59, u244_60, u244_61, u244_62, u244_63, u244_64, u244_67, u244_70, u244_73, u244_77, u244_78, u244_81, u244_82, u244_83, u244_86, u244_87, u244_88, u244_91, u244_92, u244_93, u244_96, u244_97, u244_100, u244_101, ly_kd, ly_al, ly_fv0, ly_fv1, ly_fv2, ly_fv3, ly_fv4, ly_fk, ly_ra, Option.toList, List.cons_append, List.nil_append, q_ski, q_skr, q_sku, if_true, if_false, vs, cs, true_and, hlen, show ¬ nI z ≤ nI c from nI_ge (by omega) (by omega), q_v247, q_tn, hn, show nI n ≤ nI c from nI_le (by omega) (by omega)]
        exact f
    | succ m ih =>
      intro c hc hq
      have ef : q_first (fun j => ¬ μ 100 (40 * k + j) = μ 84 (45 + 4 * j)) c (m + 1) = if ¬ μ 100 (40 * k + c) = μ 84 (45 + 4 * c) then c else q_first (fun j => ¬ μ 100 (40 * k + j) = μ 84 (45 + 4 * j)) (c + 1) m := rfl
      rw [ef] at hq
      have hwi := q_wi (show c < 8 by omega)
      refine (u244_30).mpr ?_
      by_cases g : μ 100 (40 * k + c) = μ 84 (45 + 4 * c)
      · rw [if_neg (fun q => q g)] at hq
        simp only [u244_0, u244_1, u244_4, u244_7, u244_8, u244_9, u244_12, u244_13, u244_14, u244_17, u244_18, u244_19, u244_22, u244_23, u244_24, u244_27, u244_28, u244_29, u244_31, u244_32, u244_35, u244_36, u244_37, u244_40, u244_41, u244_42, u244_45, u244_46, u244_47, u244_50, u244_51, u244_54, u244_56, u244_57, u244_58, u244_59, u244_60, u244_61, u244_62, u244_63, u244_64, u244_67, u244_70, u244_73, u244_77, u244_78, u244_81, u244_82, u244_83, u244_86, u244_87, u244_88, u244_91, u244_92, u244_93, u244_96, u244_97, u244_100, u244_101, ly_kd, ly_al, ly_fv0, ly_fv1, ly_fv2, ly_fv3, ly_fv4, ly_fk, ly_ra, Option.toList, List.cons_append, List.nil_append, q_ski, q_skr, q_sku, if_true, if_false, vs, cs, true_and, hlen, hn, q_v247, q_tn, q_nle (show c < z by omega) (by omega) rfl, q_nle (show c < n by omega) (by omega) rfl, q_40, vp_in_nI (show 40 * k + c < 160 by omega) (by decide), nI_clamp (show 40 * k + c < 2 ^ 31 by omega), m_of, hwi, g, nI_1]
        exact ih (c + 1) (by omega) hq
      · rw [if_pos g] at hq
        have f := fin c hq.symm (by omega)
        simp only [u244_0, u244_1, u244_4, u244_7, u244_8, u244_9, u244_12, u244_13, u244_14, u244_17, u244_18, u244_19, u244_22, u244_23, u244_24, u244_27, u244_28, u244_29, u244_31, u244_32, u244_35, u244_36, u244_37, u244_40, u244_41, u244_42, u244_45, u244_46, u244_47, u244_50, u244_51, u244_54, u244_56, u244_57, u244_58, u244_59, u244_60, u244_61, u244_62, u244_63, u244_64, u244_67, u244_70, u244_73, u244_77, u244_78, u244_81, u244_82, u244_83, u244_86, u244_87, u244_88, u244_91, u244_92, u244_93, u244_96, u244_97, u244_100, u244_101, ly_kd, ly_al, ly_fv0, ly_fv1, ly_fv2, ly_fv3, ly_fv4, ly_fk, ly_ra, Option.toList, List.cons_append, List.nil_append, q_ski, q_skr, q_sku, if_true, if_false, vs, cs, true_and, hlen, hn, q_v247, q_tn, q_nle (show c < z by omega) (by omega) rfl, q_nle (show c < n by omega) (by omega) rfl, q_40, vp_in_nI (show 40 * k + c < 160 by omega) (by decide), nI_clamp (show 40 * k + c < 2 ^ 31 by omega), m_of, hwi, g]
        exact f
  exact main (min z n) 0 (by omega) rfl
set_option maxHeartbeats 1000000 in
theorem p_judge {s : Int32} : q_P 134 244 [.ref 0, .int s] [.ref 83, .int s] := by
  intro μ R I hk
  obtain ⟨ok, ⟨y, hy, hy2⟩, hR, hL⟩ := q_c31 I
  obtain ⟨n, hn, hn', hn8⟩ := q_n31 I
  by_cases h1 : 0 ≤ s ∧ s ≤ 3
  · obtain ⟨k, hk3, rfl⟩ := q_rng (n := 3) rfl h1
    have hk4 : k < 4 := by omega
    have vs : vp_in (nI k) 4 := vp_in_nI hk4 (by decide)
    have cs : (nI k).toNatClampNeg = k := nI_clamp (by omega)
    obtain ⟨b1, b2, b3, b4, b5, b6, b7, b8⟩ := q_S hk4
    obtain ⟨c1, ⟨z, hz, c2, c3⟩, c4⟩ := q_i31 I hk4
    simp only [s134, u134_0, u134_1, u134_4, u134_7, u134_8, u134_9, u134_12, u134_13, u134_14, u134_17, u134_18, u134_19, u134_20, u134_21, u134_24, u134_27, u134_28, u134_29, u134_32, u134_33, u134_34, u134_37, u134_38, u134_41, u134_44, u134_47, u134_48, u134_49, u134_53, u134_54, u134_57, u134_58, u134_61, u134_63, u134_64, u134_65, u134_68, u134_71, u134_73, u134_74, u134_77, u134_79, u134_80, u134_83, u134_86, u134_87, u134_90, u134_91, u134_94, u134_97, u134_100, u134_101, u134_104, u134_105, ly_kd, ly_al, ly_fv0, ly_fv1, ly_fv2, ly_fv3, ly_fv4, ly_fk, ly_ra, Option.toList, List.cons_append, List.nil_append, q_ski, q_skr, q_sku, if_true, if_false, t_upTo, t_isCell, t_isMourner, t_isKM, t_isUse, t_isSheet, t_ref1, t_ref2, t_ref3, t_ref4, t_ref5, q_b0, q_not, and_self, h1]
    rw [u134_18 (q := 24) rfl rfl]
    simp only [u134_0, u134_1, u134_4, u134_7, u134_8, u134_9, u134_12, u134_13, u134_14, u134_17, u134_18, u134_19, u134_20, u134_21, u134_24, u134_27, u134_28, u134_29, u134_32, u134_33, u134_34, u134_37, u134_38, u134_41, u134_44, u134_47, u134_48, u134_49, u134_53, u134_54, u134_57, u134_58, u134_61, u134_63, u134_64, u134_65, u134_68, u134_71, u134_73, u134_74, u134_77, u134_79, u134_80, u134_83, u134_86, u134_87, u134_90, u134_91, u134_94, u134_97, u134_100, u134_101, u134_104, u134_105, ly_kd, ly_al, ly_fv0, ly_fv1, ly_fv2, ly_fv3, ly_fv4, ly_fk, ly_ra, Option.toList, List.cons_append, List.nil_append, q_ski, q_skr, q_sku, if_true, if_false, t_upTo, t_isCell, t_isMourner, t_isKM, t_isUse, t_isSheet, t_ref1, t_ref2, t_ref3, t_ref4, t_ref5, q_b0, q_not, and_self, vs, cs, true_and, b1, b3, b4, c1, c3, hn']
    by_cases b0 : μ 98 k = 0
    · have f98 : ∀ q x, gc_up μ 79 q x 98 k = μ 98 k := fun q x => by rw [gc_up_ne (by omega)]
      simp only [b0, if_true]
      refine hk _ _ (q_hi_up q_hi.rf (by omega)) (fun R2 hr2 => ?_)
      simp only [s244, u244_0, u244_1, u244_4, u244_7, u244_8, u244_9, u244_12, u244_13, u244_14, u244_17, u244_18, u244_19, u244_22, u244_23, u244_24, u244_27, u244_28, u244_29, u244_31, u244_32, u244_35, u244_36, u244_37, u244_40, u244_41, u244_42, u244_45, u244_46, u244_47, u244_50, u244_51, u244_54, u244_56, u244_57, u244_58, u244_59, u244_60, u244_61, u244_62, u244_63, u244_64, u244_67, u244_70, u244_73, u244_76, u244_77, u244_78, u244_81, u244_82, u244_83, u244_86, u244_87, u244_88, u244_91, u244_92, u244_93, u244_96, u244_97, u244_100, u244_101, ly_kd, ly_al, ly_fv0, ly_fv1, ly_fv2, ly_fv3, ly_fv4, ly_fk, ly_ra, Option.toList, List.cons_append, List.nil_append, q_ski, q_skr, q_sku, if_true, if_false, m_in, m_isCell, m_isMourner, m_isKm, m_isSheet, m_f1, m_f2, m_f3, m_f4, m_f5, q_b0, q_not, and_self, q_wl0, q_wl1, q_wl48, q_wu1, q_wu2, q_wu3, q_wu5, q_wu6, q_wu7, q_wu8, q_wu15, q_wu30, q_wu40, q_wu57, q_wu60, q_wu69, q_wu99, q_wu1584, fa_wide_le, q_up_o (show (84 : Nat) ≠ 79 by decide), h1, vs, cs, true_and, f98, b0]
      exact q_P_ref I (by omega) q_fx.rf.fy q_fx.rf.fy hr2
    · rw [if_neg b0, q_mn (by omega) (by omega)]
      have hmin : min z n ≤ z ∧ min z n ≤ n ∧ (min z n = z ∨ min z n = n) := by omega
      have fin : R (some (.int (if q_jr (fun j => μ 100 (40 * k + j)) (μ 84) (min z n) = z ∧ q_jr (fun j => μ 100 (40 * k + j)) (μ 84) (min z n) = n then -1 else nI (q_jr (fun j => μ 100 (40 * k + j)) (μ 84) (min z n))))) μ := by
        refine hk _ _ q_hi.rf (fun R2 hr2 => ?_)
        exact m_judge hk4 hz c2 hn hn8 b0 (hr2 μ I q_hi.rf)
      have main : ∀ m c, c + m = min z n → q_jr (fun j => μ 100 (40 * k + j)) (μ 84) (min z n) = q_first (fun j => ¬ μ 100 (40 * k + j) = μ 84 (45 + 4 * j)) c m → gc_W (gc_S (99)) cX11_judge 11 0 R 51 [.ref 0, .int (nI k), .ref (68 + 2 * k), .int (nI (min z n)), .int (nI c)] [] μ := by
        intro m
        induction m with
        | zero =>
          intro c hc hq
          have hq : q_jr (fun j => μ 100 (40 * k + j)) (μ 84) (min z n) = c := hq
          have hc : c = min z n := hc
          rw [hq] at fin
          refine (u134_51).mpr ?_
          rw [← hc]
          by_cases e : z = n
          · rw [if_pos ⟨by omega, by omega⟩] at fin
            simp only [u134_0, u134_1, u134_4, u134_7, u134_8, u134_9, u134_12, u134_13, u134_14, u134_17, u134_18, u134_19, u134_20, u134_21, u134_24, u134_27, u134_28, u134_29, u134_32, u134_33, u134_34, u134_37, u134_38, u134_41, u134_44, u134_47, u134_48, u134_49, u134_53, u134_54, u134_57, u134_58, u134_61, u134_63, u134_64, u134_65, u134_68, u134_71, u134_73, u134_74, u134_77, u134_79, u134_80, u134_83, u134_86, u134_87, u134_90, u134_91, u134_94, u134_97, u134_100, u134_101, u134_104, u134_105, show nI c ≤ nI c from Int32.le_refl _, if_true, ly_kd, ly_al, ly_fv0, ly_fv1, ly_fv2, ly_fv3, ly_fv4, ly_fk, ly_ra, Option.toList, List.cons_append, List.nil_append, q_ski, q_skr, q_sku, if_true, if_false, b1, b3, c3, hn', eq_true (show nI z = nI n by rw [e])]
            exact fin
          · rw [if_neg (by omega)] at fin
            have e3 : ¬ nI z = nI n := fun q => e ((nI_eq (by omega) (by omega)).mp q)
            simp only [u134_0, u134_1, u134_4, u134_7, u134_8, u134_9, u134_12, u134_13, u134_14, u134_17, u134_18, u134_19, u134_20, u134_21, u134_24, u134_27, u134_28, u134_29, u134_32, u134_33, u134_34, u134_37, u134_38, u134_41, u134_44, u134_47, u134_48, u134_49, u134_53, u134_54, u134_57, u134_58, u134_61, u134_63, u134_64, u134_65, u134_68, u134_71, u134_73, u134_74, u134_77, u134_79, u134_80, u134_83, u134_86, u134_87, u134_90, u134_91, u134_94, u134_97, u134_100, u134_101, u134_104, u134_105, show nI c ≤ nI c from Int32.le_refl _, if_true, ly_kd, ly_al, ly_fv0, ly_fv1, ly_fv2, ly_fv3, ly_fv4, ly_fk, ly_ra, Option.toList, List.cons_append, List.nil_append, q_ski, q_skr, q_sku, if_true, if_false, b1, b3, c3, hn', eq_false e3]
            exact fin
        | succ m ih =>
          intro c hc hq
          have ef : q_first (fun j => ¬ μ 100 (40 * k + j) = μ 84 (45 + 4 * j)) c (m + 1) = if ¬ μ 100 (40 * k + c) = μ 84 (45 + 4 * c) then c else q_first (fun j => ¬ μ 100 (40 * k + j) = μ 84 (45 + 4 * j)) (c + 1) m := rfl
          rw [ef] at hq
          have er : μ (69 + 2 * k) c = μ 100 (40 * k + c) := c4 c (by omega)
          have es : μ 37 c = μ 84 (45 + 4 * c) := hR.2.2.2.2.1 c (by omega)
          refine (u134_51).mpr ?_
          by_cases g : μ 100 (40 * k + c) = μ 84 (45 + 4 * c)
          · rw [if_neg (fun q => q g)] at hq
            simp only [u134_0, u134_1, u134_4, u134_7, u134_8, u134_9, u134_12, u134_13, u134_14, u134_17, u134_18, u134_19, u134_20, u134_21, u134_24, u134_27, u134_28, u134_29, u134_32, u134_33, u134_34, u134_37, u134_38, u134_41, u134_44, u134_47, u134_48, u134_49, u134_53, u134_54, u134_57, u134_58, u134_61, u134_63, u134_64, u134_65, u134_68, u134_71, u134_73, u134_74, u134_77, u134_79, u134_80, u134_83, u134_86, u134_87, u134_90, u134_91, u134_94, u134_97, u134_100, u134_101, u134_104, u134_105, ly_kd, ly_al, ly_fv0, ly_fv1, ly_fv2, ly_fv3, ly_fv4, ly_fk, ly_ra, Option.toList, List.cons_append, List.nil_append, q_ski, q_skr, q_sku, if_true, if_false, t_upTo, t_isCell, t_isMourner, t_isKM, t_isUse, t_isSheet, t_ref1, t_ref2, t_ref3, t_ref4, t_ref5, q_b0, q_not, and_self, q_nle (show c < min z n by omega) (show min z n < 2 ^ 31 by omega) rfl, b1, b2, b5, b6, vp_in_nI (show c < 40 by omega) (by decide), nI_clamp (show c < 2 ^ 31 by omega), true_and, er, es, g, vp_in_nI (show c < 8 by omega) (by decide), nI_1]
            exact ih (c + 1) (by omega) hq
          · rw [if_pos g] at hq
            rw [hq, if_neg (by omega)] at fin
            simp only [u134_0, u134_1, u134_4, u134_7, u134_8, u134_9, u134_12, u134_13, u134_14, u134_17, u134_18, u134_19, u134_20, u134_21, u134_24, u134_27, u134_28, u134_29, u134_32, u134_33, u134_34, u134_37, u134_38, u134_41, u134_44, u134_47, u134_48, u134_49, u134_53, u134_54, u134_57, u134_58, u134_61, u134_63, u134_64, u134_65, u134_68, u134_71, u134_73, u134_74, u134_77, u134_79, u134_80, u134_83, u134_86, u134_87, u134_90, u134_91, u134_94, u134_97, u134_100, u134_101, u134_104, u134_105, ly_kd, ly_al, ly_fv0, ly_fv1, ly_fv2, ly_fv3, ly_fv4, ly_fk, ly_ra, Option.toList, List.cons_append, List.nil_append, q_ski, q_skr, q_sku, if_true, if_false, t_upTo, t_isCell, t_isMourner, t_isKM, t_isUse, t_isSheet, t_ref1, t_ref2, t_ref3, t_ref4, t_ref5, q_b0, q_not, and_self, q_nle (show c < min z n by omega) (show min z n < 2 ^ 31 by omega) rfl, b1, b2, b5, b6, vp_in_nI (show c < 40 by omega) (by decide), nI_clamp (show c < 2 ^ 31 by omega), true_and, er, es, g, vp_in_nI (show c < 8 by omega) (by decide)]
            exact fin
      exact main (min z n) 0 (by omega) rfl
  · exact (by
      simp only [s134, u134_0, u134_1, u134_4, u134_7, u134_8, u134_9, u134_12, u134_13, u134_14, u134_17, u134_18, u134_19, u134_20, u134_21, u134_24, u134_27, u134_28, u134_29, u134_32, u134_33, u134_34, u134_37, u134_38, u134_41, u134_44, u134_47, u134_48, u134_49, u134_53, u134_54, u134_57, u134_58, u134_61, u134_63, u134_64, u134_65, u134_68, u134_71, u134_73, u134_74, u134_77, u134_79, u134_80, u134_83, u134_86, u134_87, u134_90, u134_91, u134_94, u134_97, u134_100, u134_101, u134_104, u134_105, ly_kd, ly_al, ly_fv0, ly_fv1, ly_fv2, ly_fv3, ly_fv4, ly_fk, ly_ra, Option.toList, List.cons_append, List.nil_append, q_ski, q_skr, q_sku, if_true, if_false, t_upTo, t_isCell, t_isMourner, t_isKM, t_isUse, t_isSheet, t_ref1, t_ref2, t_ref3, t_ref4, t_ref5, q_b0, q_not, and_self, h1]
      refine hk _ _ (q_hi_up q_hi.rf (by omega)) (fun R2 hr2 => ?_)
      simp only [s244, u244_0, u244_1, u244_4, u244_7, u244_8, u244_9, u244_12, u244_13, u244_14, u244_17, u244_18, u244_19, u244_22, u244_23, u244_24, u244_27, u244_28, u244_29, u244_31, u244_32, u244_35, u244_36, u244_37, u244_40, u244_41, u244_42, u244_45, u244_46, u244_47, u244_50, u244_51, u244_54, u244_56, u244_57, u244_58, u244_59, u244_60, u244_61, u244_62, u244_63, u244_64, u244_67, u244_70, u244_73, u244_76, u244_77, u244_78, u244_81, u244_82, u244_83, u244_86, u244_87, u244_88, u244_91, u244_92, u244_93, u244_96, u244_97, u244_100, u244_101, ly_kd, ly_al, ly_fv0, ly_fv1, ly_fv2, ly_fv3, ly_fv4, ly_fk, ly_ra, Option.toList, List.cons_append, List.nil_append, q_ski, q_skr, q_sku, if_true, if_false, m_in, m_isCell, m_isMourner, m_isKm, m_isSheet, m_f1, m_f2, m_f3, m_f4, m_f5, q_b0, q_not, and_self, q_wl0, q_wl1, q_wl48, q_wu1, q_wu2, q_wu3, q_wu5, q_wu6, q_wu7, q_wu8, q_wu15, q_wu30, q_wu40, q_wu57, q_wu60, q_wu69, q_wu99, q_wu1584, fa_wide_le, q_up_o (show (84 : Nat) ≠ 79 by decide), h1]
      exact q_P_ref I (by omega) q_fx.rf.fy q_fx.rf.fy hr2)
theorem p_tell {v : Int32} : q_P 137 247 [.ref 0, .int v] [.ref 83, .int v] := by
  intro μ R I hk
  obtain ⟨ok, ⟨y, hy, hy2⟩, hR, hL⟩ := q_c31 I
  obtain ⟨t, wt, wt2, wl, wv⟩ := I.1.2.2.2.2.2.2
  have wl : μ 41 1 = nI t := wl
  by_cases h : t = 20
  · have e1 : ¬ nI t < 20 := by rw [h]; decide
    have e2 : (nI t = 20) = True := eq_true (by rw [h]; rfl)
    exact (by
      simp only [s137, u137_0, u137_1, u137_4, u137_7, u137_10, u137_12, u137_15, u137_16, u137_17, u137_20, u137_21, u137_22, u137_25, u137_28, u137_29, u137_32, u137_33, u137_36, u137_39, u137_42, ly_kd, ly_al, ly_fv0, ly_fv1, ly_fv2, ly_fv3, ly_fv4, ly_fk, ly_ra, Option.toList, List.cons_append, List.nil_append, q_ski, q_skr, q_sku, if_true, if_false, t_upTo, t_isCell, t_isMourner, t_isKM, t_isUse, t_isSheet, t_ref1, t_ref2, t_ref3, t_ref4, t_ref5, q_b0, q_not, and_self, wl, wt, e1, e2, q_v247, q_tn, true_and]
      refine hk _ _ (q_hi_up q_hi.rf (by omega)) (fun R2 hr2 => ?_)
      simp only [s247, u247_0, u247_1, u247_4, u247_5, u247_6, u247_8, u247_11, u247_12, u247_13, u247_16, u247_17, u247_18, u247_21, u247_23, u247_24, u247_27, u247_28, u247_29, u247_30, u247_31, u247_32, u247_33, u247_36, u247_37, u247_38, u247_39, u247_40, u247_41, u247_42, u247_43, u247_46, u247_47, u247_48, ly_kd, ly_al, ly_fv0, ly_fv1, ly_fv2, ly_fv3, ly_fv4, ly_fk, ly_ra, Option.toList, List.cons_append, List.nil_append, q_ski, q_skr, q_sku, if_true, if_false, m_in, m_isCell, m_isMourner, m_isKm, m_isSheet, m_f1, m_f2, m_f3, m_f4, m_f5, q_b0, q_not, and_self, q_wl0, q_wl1, q_wl48, q_wu1, q_wu2, q_wu3, q_wu5, q_wu6, q_wu7, q_wu8, q_wu15, q_wu30, q_wu40, q_wu57, q_wu60, q_wu69, q_wu99, q_wu1584, fa_wide_le, q_up_o (show (84 : Nat) ≠ 79 by decide), wl, wt, e1, e2, q_v247, q_tn, true_and]
      exact q_P_ref I (by omega) q_fx.rf.fy q_fx.rf.fy hr2)
  · have e1 : nI t < 20 := (show nI t < nI 20 from nI_lt (by omega) (by decide))
    have e2 : ¬ nI t = 20 := fun q => h ((nI_eq (by omega) (by decide : 20 < 2 ^ 31)).mp q)
    simp only [s137, u137_0, u137_1, u137_4, u137_7, u137_10, u137_12, u137_15, u137_16, u137_17, u137_20, u137_21, u137_22, u137_25, u137_28, u137_29, u137_32, u137_33, u137_36, u137_39, u137_42, ly_kd, ly_al, ly_fv0, ly_fv1, ly_fv2, ly_fv3, ly_fv4, ly_fk, ly_ra, Option.toList, List.cons_append, List.nil_append, q_ski, q_skr, q_sku, if_true, if_false, wl, e1, t_add q_rw12.2.2.2.2.2.2.1 (by decide) wl (show t < 20 by omega), q_up_same]
    have n1 : ∀ o, o ≠ 41 → o ≠ 42 → gc_up (gc_up μ (41 + 1) t v) 41 1 (nI (t + 1)) o = μ o := fun o a b => by rw [gc_up_ne a, gc_up_ne (by omega)]
    have n2 : gc_up (gc_up μ (41 + 1) t v) 41 1 (nI (t + 1)) 41 1 = nI (t + 1) := q_up_same
    have n3 : ∀ j, gc_up (gc_up μ (41 + 1) t v) 41 1 (nI (t + 1)) 42 j = upd (μ 42) t v j := fun j => by rw [gc_up_ne (by omega), gc_up_eq]
    refine hk _ _ (fun o ho => n1 o (by omega) (by omega)) (fun R2 hr2 => ?_)
    generalize gc_up (gc_up μ (41 + 1) t v) 41 1 (nI (t + 1)) = μ1 at n1 n2 n3 hr2 ⊢
    have e84 : μ1 84 = μ 84 := n1 84 (by omega) (by omega)
    have e4 : ∀ x, gc_up μ1 84 (77 + t) x 84 4 = nI t := fun x => by rw [q_up_j (by omega), e84, wt]
    simp only [s247, u247_0, u247_1, u247_4, u247_5, u247_6, u247_8, u247_11, u247_12, u247_13, u247_16, u247_17, u247_18, u247_21, u247_23, u247_24, u247_27, u247_28, u247_29, u247_30, u247_31, u247_32, u247_33, u247_36, u247_37, u247_38, u247_39, u247_40, u247_41, u247_42, u247_43, u247_46, u247_47, u247_48, ly_kd, ly_al, ly_fv0, ly_fv1, ly_fv2, ly_fv3, ly_fv4, ly_fk, ly_ra, Option.toList, List.cons_append, List.nil_append, q_ski, q_skr, q_sku, if_true, if_false, e84, wt, e2, q_v247, q_tn, true_and, show (77 : Int32) + nI t = nI (77 + t) from nI_add 77 t, vp_in_nI (show 77 + t < 247 by omega) (by decide), nI_clamp (show 77 + t < 2 ^ 31 by omega), e4, nI_1, q_up_same]
    have D0 : gc_up (gc_up μ1 84 (77 + t) v) 84 4 (nI (t + 1)) 84 = upd (upd (μ 84) (77 + t) v) 4 (nI (t + 1)) := by rw [gc_up_eq, gc_up_eq, e84]
    have m1 : ∀ o, o ≠ 84 → gc_up (gc_up μ1 84 (77 + t) v) 84 4 (nI (t + 1)) o = μ1 o := fun o a => by rw [gc_up_ne a, gc_up_ne a]
    generalize gc_up (gc_up μ1 84 (77 + t) v) 84 4 (nI (t + 1)) = μ2 at D0 m1 ⊢
    have Do : ∀ j, j ≠ 4 → j ≠ 77 + t → upd (upd (μ 84) (77 + t) v) 4 (nI (t + 1)) j = μ 84 j := fun j a b => by unfold upd; rw [if_neg a, if_neg b]
    have D4 : upd (upd (μ 84) (77 + t) v) 4 (nI (t + 1)) 4 = nI (t + 1) := if_pos rfl
    have Dt : upd (upd (μ 84) (77 + t) v) 4 (nI (t + 1)) (77 + t) = v := by unfold upd; rw [if_neg (by omega), if_pos rfl]
    have okD : q_ok (upd (upd (μ 84) (77 + t) v) 4 (nI (t + 1))) := q_ok_4 (q_ok_4 ok (by omega)) (by omega)
    generalize upd (upd (μ 84) (77 + t) v) 4 (nI (t + 1)) = D' at D0 Do D4 Dt okD
    obtain ⟨i1, i2, i3, i4, i5, i6, i7⟩ := I.1
    have mm : ∀ o, o ≠ 84 → o ≠ 41 → o ≠ 42 → μ2 o = μ o := fun o a b c => by rw [m1 o a]; exact n1 o b c
    refine hr2 μ2 (q_I_now I (fun o a b c d e f g h => mm o c (by omega) (by omega)) (by rw [mm 83 (by omega) (by omega) (by omega)]) (by rw [mm 83 (by omega) (by omega) (by omega)]) ?_) (fun o ho => m1 o (by omega))
    rw [D0]
    refine ⟨okD, ⟨y, (Do 1 (by omega) (by omega)).trans hy, hy2⟩, q_R_mem (q_R_D hR (fun j a b c d => Do j d (by omega))) (fun o a b _ => mm o (by omega) (by omega) (by omega)), ?_, q_Ll_mem (q_Ll_D i5 (fun j hj => Do j (by omega) (by omega))) (fun o ho => mm o (by omega) (by omega) (by omega)), q_tp_mem (q_tp_D i6 (Do 3 (by omega) (by omega)) (fun j hj => Do j (by omega) (by omega))) (mm _ (by omega) (by omega) (by omega)) (mm _ (by omega) (by omega) (by omega)), ⟨t + 1, D4, by omega, ?_, fun j hj => ?_⟩⟩
    · rw [mm 31 (by omega) (by omega) (by omega), Do 2 (by omega) (by omega)]; exact i4
    · rw [m1 41 (by omega)]; exact n2
    · rw [m1 42 (by omega), n3]
      by_cases e : j = t
      · subst e
        rw [Dt]; exact if_pos rfl
      · rw [Do _ (by omega) (by omega)]
        refine (if_neg e).trans ?_
        exact wv j (by omega)
