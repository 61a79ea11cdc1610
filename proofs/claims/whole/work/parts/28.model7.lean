set_option maxHeartbeats 2000000 in
theorem m_dries {d : Nat} {R : gR} {μ : gM} (hwf : q_wfD (μ 84)) (h : ∀ μ', q_fr μ μ' → μ' 84 = q_dry (μ 84) → R none μ') : gc_S (d + 4) 180 [.ref 83] μ R := by
  simp only [s180, u180_0, u180_1, u180_3, u180_5, u180_8, u180_9, u180_12, u180_13, u180_14, u180_15, u180_16, u180_19, u180_20, u180_21, u180_22, u180_23, u180_24, u180_25, u180_28, u180_29, u180_32, u180_33, u180_34, u180_36, u180_37, u180_40, u180_41, u180_44, u180_47, u180_48, u180_50, u180_52, u180_55, u180_56, u180_59, u180_60, u180_61, u180_62, u180_63, u180_66, u180_67, u180_68, u180_69, u180_70, u180_71, u180_74, u180_75, u180_76, u180_77, u180_78, u180_80, u180_83, u180_84, u180_87, u180_90, Option.toList, List.cons_append, List.nil_append, q_ski, q_skr, q_sku, if_true, if_false]
  have Z : ∀ μ0 : gM, (∀ o, o ≠ 88 → o ≠ 90 → o ≠ 91 → μ0 o = μ o) → (∀ j, j < 16 → μ0 91 j = q_tg (μ 84) 1 (μ 84 (5 + j)) (nI (q_bare (μ 84) j)) (q_y8 (μ 84))) → gc_W (gc_S (d+3)) cX12_dries 12 2 R 49 [.ref 83, .int (nI 0)] [] μ0 := by
    intro μ0 h0 hf
    have e9 : ∀ F, gc_ob μ0 84 F 91 = μ0 91 := fun F => q_ob_n (by decide)
    have e8 : ∀ F, gc_ob μ0 84 F 84 = F := fun F => q_ob_e
    have e84 : μ0 84 = μ 84 := h0 84 (by decide) (by decide) (by decide)
    have main : (fun c : Nat => ∀ F : Nat → Int32, (∀ j, F j = if 5 ≤ j ∧ j < 5 + c then q_hd (μ 84 j - q_tg (μ 84) 1 (μ 84 j) (nI (q_bare (μ 84) (j - 5))) (q_y8 (μ 84))) else μ 84 j) → gc_W (gc_S (d+3)) cX12_dries 12 2 R 49 [.ref 83, .int (nI c)] [] (gc_ob μ0 84 F)) 0 := by
      refine q_down (X := fun c : Nat => ∀ F : Nat → Int32, (∀ j, F j = if 5 ≤ j ∧ j < 5 + c then q_hd (μ 84 j - q_tg (μ 84) 1 (μ 84 j) (nI (q_bare (μ 84) (j - 5))) (q_y8 (μ 84))) else μ 84 j) → gc_W (gc_S (d+3)) cX12_dries 12 2 R 49 [.ref 83, .int (nI c)] [] (gc_ob μ0 84 F)) 16 ?_ ?_
      · intro F hF
        simp only [u180_0, u180_1, u180_3, u180_5, u180_8, u180_9, u180_12, u180_13, u180_14, u180_15, u180_16, u180_19, u180_20, u180_21, u180_22, u180_23, u180_24, u180_25, u180_28, u180_29, u180_32, u180_33, u180_34, u180_36, u180_37, u180_40, u180_41, u180_44, u180_47, u180_48, u180_49, u180_50, u180_52, u180_55, u180_56, u180_59, u180_60, u180_61, u180_62, u180_63, u180_66, u180_67, u180_68, u180_69, u180_70, u180_71, u180_74, u180_75, u180_76, u180_77, u180_78, u180_80, u180_83, u180_84, u180_87, u180_90, show (16 : Int32) ≤ nI 16 by decide, if_true]
        refine h _ (fun o a b c e => by rw [q_ob_n a, h0 o b c e]) ?_
        rw [q_ob_e]
        funext j
        rw [hF j]
        rfl
      · intro c hc ih F hF
        have hFc : F (5 + c) = μ 84 (5 + c) := by rw [hF, if_neg (by omega)]
        refine (u180_49).mpr ?_
        simp only [u180_0, u180_1, u180_3, u180_5, u180_8, u180_9, u180_12, u180_13, u180_14, u180_15, u180_16, u180_19, u180_20, u180_21, u180_22, u180_23, u180_24, u180_25, u180_28, u180_29, u180_32, u180_33, u180_34, u180_36, u180_37, u180_40, u180_41, u180_44, u180_47, u180_48, u180_50, u180_52, u180_55, u180_56, u180_59, u180_60, u180_61, u180_62, u180_63, u180_66, u180_67, u180_68, u180_69, u180_70, u180_71, u180_74, u180_75, u180_76, u180_77, u180_78, u180_80, u180_83, u180_84, u180_87, u180_90, q_nle hc (by decide) (show (16 : Int32) = nI 16 from rfl), ly_kd, ly_al, ly_fv0, ly_fv1, ly_fv2, ly_fv3, ly_fv4, ly_fk, ly_ra, Option.toList, List.cons_append, List.nil_append, q_ski, q_skr, q_sku, if_true, if_false, e8, e9, q_wt hc, q_v16 hc, true_and, m_held, q_hdf, q_ob_u, nI_1, hFc, hf c hc]
        refine ih _ (fun j => ?_)
        unfold upd
        by_cases hj : j = 5 + c
        · subst hj
          rw [if_pos rfl, if_pos ⟨by omega, by omega⟩, show 5 + c - 5 = c by omega]
        · rw [if_neg hj, hF j]
          by_cases h1 : 5 ≤ j ∧ j < 5 + c
          · rw [if_pos h1, if_pos ⟨h1.1, by omega⟩]
          · rw [if_neg h1, if_neg (by omega)]
    have := main (μ 84) (fun j => by rw [if_neg (by omega)])
    rwa [show gc_ob μ0 84 (μ 84) = μ0 by rw [← e84]; exact q_ob_s] at this
  have main : (fun c : Nat => ∀ μ0 : gM, (∀ o, o ≠ 88 → o ≠ 90 → o ≠ 91 → μ0 o = μ o) → (∀ j, j < c → μ0 91 j = q_tg (μ 84) 1 (μ 84 (5 + j)) (nI (q_bare (μ 84) j)) (q_y8 (μ 84))) → gc_W (gc_S (d+3)) cX12_dries 12 2 R 2 [.ref 83, .int (nI c)] [] μ0) 0 := by
    refine q_down (X := fun c : Nat => ∀ μ0 : gM, (∀ o, o ≠ 88 → o ≠ 90 → o ≠ 91 → μ0 o = μ o) → (∀ j, j < c → μ0 91 j = q_tg (μ 84) 1 (μ 84 (5 + j)) (nI (q_bare (μ 84) j)) (q_y8 (μ 84))) → gc_W (gc_S (d+3)) cX12_dries 12 2 R 2 [.ref 83, .int (nI c)] [] μ0) 16 ?_ ?_
    · intro μ0 h0 hf
      refine (u180_2).mpr ?_
      simp only [u180_0, u180_1, u180_3, u180_5, u180_8, u180_9, u180_12, u180_13, u180_14, u180_15, u180_16, u180_19, u180_20, u180_21, u180_22, u180_23, u180_24, u180_25, u180_28, u180_29, u180_32, u180_33, u180_34, u180_36, u180_37, u180_40, u180_41, u180_44, u180_47, u180_48, u180_50, u180_52, u180_55, u180_56, u180_59, u180_60, u180_61, u180_62, u180_63, u180_66, u180_67, u180_68, u180_69, u180_70, u180_71, u180_74, u180_75, u180_76, u180_77, u180_78, u180_80, u180_83, u180_84, u180_87, u180_90, show (16 : Int32) ≤ nI 16 by decide, Option.toList, List.cons_append, List.nil_append, q_ski, q_skr, q_sku, if_true, if_false]
      exact Z μ0 h0 hf
    · intro c hc ih μ0 h0 hf
      have e84 : μ0 84 = μ 84 := h0 84 (by decide) (by decide) (by decide)
      refine (u180_2).mpr ?_
      simp only [u180_0, u180_1, u180_3, u180_5, u180_8, u180_9, u180_12, u180_13, u180_14, u180_15, u180_16, u180_19, u180_20, u180_21, u180_22, u180_23, u180_24, u180_25, u180_28, u180_29, u180_32, u180_33, u180_34, u180_36, u180_37, u180_40, u180_41, u180_44, u180_47, u180_48, u180_50, u180_52, u180_55, u180_56, u180_59, u180_60, u180_61, u180_62, u180_63, u180_66, u180_67, u180_68, u180_69, u180_70, u180_71, u180_74, u180_75, u180_76, u180_77, u180_78, u180_80, u180_83, u180_84, u180_87, u180_90, q_nle hc (by decide) (show (16 : Int32) = nI 16 from rfl), ly_kd, ly_al, ly_fv0, ly_fv1, ly_fv2, ly_fv3, ly_fv4, ly_fk, ly_ra, Option.toList, List.cons_append, List.nil_append, q_ski, q_skr, q_sku, if_true, if_false, e84, q_wt hc, q_v247, q_tn, true_and, m_bare hc, show (¬ (8 : Int32) = 0) ↔ True from by decide]
      refine m_textGives (u := 1) (by decide) rfl (by rw [e84]; exact hwf) (fun μ1 h1 => ?_)
      simp only [u180_0, u180_1, u180_3, u180_5, u180_8, u180_9, u180_12, u180_13, u180_14, u180_15, u180_16, u180_19, u180_20, u180_21, u180_22, u180_23, u180_24, u180_25, u180_28, u180_29, u180_32, u180_33, u180_34, u180_36, u180_37, u180_40, u180_41, u180_44, u180_47, u180_48, u180_50, u180_52, u180_55, u180_56, u180_59, u180_60, u180_61, u180_62, u180_63, u180_66, u180_67, u180_68, u180_69, u180_70, u180_71, u180_74, u180_75, u180_76, u180_77, u180_78, u180_80, u180_83, u180_84, u180_87, u180_90, ly_kd, ly_al, ly_fv0, ly_fv1, ly_fv2, ly_fv3, ly_fv4, ly_fk, ly_ra, Option.toList, List.cons_append, List.nil_append, q_ski, q_skr, q_sku, if_true, if_false, q_v16 hc, true_and, nI_1]
      refine ih _ (fun o a b c => by rw [gc_up_ne c, h1 o a b, h0 o a b c]) (fun j hj => ?_)
      rw [gc_up_eq]
      unfold upd
      by_cases e : j = c
      · subst e; rw [if_pos rfl, e84]; rfl
      · rw [if_neg e, h1 91 (by decide) (by decide)]; exact hf j (by omega)
  exact main μ (fun _ _ _ _ => rfl) (fun j hj => absurd hj (Nat.not_lt_zero j))
theorem q_gri_o {D : Nat → Int32} {j : Nat} : ∀ n, (∀ i, i < n → j ≠ 45 + 4 * i) → q_gri D n j = D j
  | 0, _ => rfl
  | n + 1, h => by
    show upd (q_gri D n) (45 + 4 * n) _ j = D j
    unfold upd
    rw [if_neg (h n (by omega)), q_gri_o n (fun i hi => h i (by omega))]
set_option maxHeartbeats 2000000 in
theorem m_yearGoes {d : Nat} {R : gR} {μ : gM} (hok : q_ok (μ 84)) (h : ∀ μ', q_fr μ μ' → μ' 84 = q_yr (μ 84) → R none μ') : gc_S (d + 6) 181 [.ref 83] μ R := by
  have hok' := hok
  obtain ⟨⟨n, hn, hn8⟩, ⟨y, hy, hy2⟩, hwet, htorn, hlist, hm, hwf⟩ := hok
  have hmod : μ 84 1 - μ 84 1 / 6 * 6 = nI (y % 6) := by rw [hy, show (6 : Int32) = nI 6 from rfl, pk_rem (by omega) (by decide) (by decide)]
  have hm6 : y % 6 < 6 := Nat.mod_lt _ (by decide)
  obtain ⟨w, hw, hw7⟩ := hlist (y % 6) hm6
  have hwho : q_who (μ 84) = nI w := by unfold q_who; rw [hmod, nI_clamp (by omega), hw]
  have e37 : (37 : Int32) + nI (y % 6) = nI (37 + y % 6) := nI_add 37 _
  have v37 : vp_in (nI (37 + y % 6)) 247 := vp_in_nI (by omega) (by decide)
  have c37 : (nI (37 + y % 6)).toNatClampNeg = 37 + y % 6 := nI_clamp (by omega)
  have tail : ∀ μ1 : gM, q_fr μ μ1 → (∀ j, j < 5 ∨ 21 ≤ j → j ≠ 45 + 4 * w → μ1 84 j = μ 84 j) → (μ1 84 = if 0 ≤ q_who (μ 84) ∧ q_who (μ 84) ≤ μ 84 0 - 1 then q_weep (μ 84) (q_who (μ 84)).toNatClampNeg else μ 84) → ∀ l2, gc_sk l2 = true → gc_W (gc_S (d+5)) cX12_yearGoes 12 2 R 31 [.ref 83, .int (nI w), l2] [] μ1 := by
    intro μ1 h1 hj1 hD1 l2 hl2
    simp only [u181_0, u181_1, u181_4, u181_6, u181_7, u181_10, u181_11, u181_12, u181_14, u181_15, u181_16, u181_17, u181_18, u181_19, u181_20, u181_23, u181_26, u181_27, u181_28, u181_31, u181_32, u181_35, u181_36, u181_39, u181_40, u181_42, u181_43, u181_46, u181_47, u181_48, u181_51, u181_52, u181_53, u181_54, u181_55, u181_56, u181_57, u181_60, u181_61, u181_62, u181_65, u181_66, u181_67, u181_69, u181_72, u181_75, u181_78, u181_81, u181_82, u181_85, u181_86, u181_87, u181_88, u181_89, u181_90, u181_91, ly_kd, ly_al, ly_fv0, ly_fv1, ly_fv2, ly_fv3, ly_fv4, ly_fk, ly_ra, Option.toList, List.cons_append, List.nil_append, q_ski, q_skr, q_sku, if_true, if_false]
    refine m_seeps (fun μ2 h2 hD2 => ?_)
    simp only [u181_0, u181_1, u181_4, u181_6, u181_7, u181_10, u181_11, u181_12, u181_14, u181_15, u181_16, u181_17, u181_18, u181_19, u181_20, u181_23, u181_26, u181_27, u181_28, u181_31, u181_32, u181_35, u181_36, u181_39, u181_40, u181_42, u181_43, u181_46, u181_47, u181_48, u181_51, u181_52, u181_53, u181_54, u181_55, u181_56, u181_57, u181_60, u181_61, u181_62, u181_65, u181_66, u181_67, u181_69, u181_72, u181_75, u181_78, u181_81, u181_82, u181_85, u181_86, u181_87, u181_88, u181_89, u181_90, u181_91, ly_kd, ly_al, ly_fv0, ly_fv1, ly_fv2, ly_fv3, ly_fv4, ly_fk, ly_ra, Option.toList, List.cons_append, List.nil_append, q_ski, q_skr, q_sku, if_true, if_false]
    have hwf2 : q_wfD (μ2 84) := by
      intro u hu
      obtain ⟨k, hk, hk2⟩ := hwf u hu
      have hc : ∀ j, 97 ≤ j ∨ j = 75 ∨ j = 76 → μ2 84 j = μ 84 j := fun j hj => by
        rw [hD2]
        unfold q_seep
        rw [if_neg (by omega)]
        exact hj1 j (by omega) (by omega)
      refine ⟨k, by rw [hc (75 + u) (by omega)]; exact hk, ?_⟩
      have : q_code (μ2 84) u = q_code (μ 84) u := funext fun j => hc _ (Or.inl (by omega))
      rw [this]; exact hk2
    refine m_dries hwf2 (fun μ3 h3 hD3 => ?_)
    simp only [u181_0, u181_1, u181_4, u181_6, u181_7, u181_10, u181_11, u181_12, u181_14, u181_15, u181_16, u181_17, u181_18, u181_19, u181_20, u181_23, u181_26, u181_27, u181_28, u181_31, u181_32, u181_35, u181_36, u181_39, u181_40, u181_42, u181_43, u181_46, u181_47, u181_48, u181_51, u181_52, u181_53, u181_54, u181_55, u181_56, u181_57, u181_60, u181_61, u181_62, u181_65, u181_66, u181_67, u181_69, u181_72, u181_75, u181_78, u181_81, u181_82, u181_85, u181_86, u181_87, u181_88, u181_89, u181_90, u181_91, ly_kd, ly_al, ly_fv0, ly_fv1, ly_fv2, ly_fv3, ly_fv4, ly_fk, ly_ra, Option.toList, List.cons_append, List.nil_append, q_ski, q_skr, q_sku, if_true, if_false, hl2]
    have h30 : μ3 84 0 = nI n := by
      rw [hD3]; unfold q_dry; rw [if_neg (by omega), hD2]; unfold q_seep; rw [if_neg (by omega), hj1 0 (by omega) (by omega), hn]
    have hfin : q_yr (μ 84) = upd (q_gri (μ3 84) n) 1 (q_gri (μ3 84) n 1 + 1) := by
      unfold q_yr
      dsimp only
      rw [← hD1, ← hD2, ← hD3, hn, nI_clamp (by omega)]
    have hf3 : q_fr μ μ3 := (h1.tr h2).tr h3
    have main : (fun i : Nat => gc_W (gc_S (d+5)) cX12_yearGoes 12 2 R 41 [.ref 83, .int (nI w), .int (nI i)] [] (gc_ob μ3 84 (q_gri (μ3 84) i))) 0 := by
      refine q_down (X := fun i : Nat => gc_W (gc_S (d+5)) cX12_yearGoes 12 2 R 41 [.ref 83, .int (nI w), .int (nI i)] [] (gc_ob μ3 84 (q_gri (μ3 84) i))) n ?_ ?_
      · have e0 : q_gri (μ3 84) n 0 = nI n := by rw [q_gri_o n (fun i hi => by omega), h30]
        have e8 : ∀ F, gc_ob μ3 84 F 84 = F := fun F => q_ob_e
        refine (u181_41).mpr ?_
        simp only [u181_0, u181_1, u181_4, u181_6, u181_7, u181_10, u181_11, u181_12, u181_14, u181_15, u181_16, u181_17, u181_18, u181_19, u181_20, u181_23, u181_26, u181_27, u181_28, u181_31, u181_32, u181_35, u181_36, u181_39, u181_40, u181_42, u181_43, u181_46, u181_47, u181_48, u181_51, u181_52, u181_53, u181_54, u181_55, u181_56, u181_57, u181_60, u181_61, u181_62, u181_65, u181_66, u181_67, u181_69, u181_72, u181_75, u181_78, u181_81, u181_82, u181_85, u181_86, u181_87, u181_88, u181_89, u181_90, u181_91, ly_kd, ly_al, ly_fv0, ly_fv1, ly_fv2, ly_fv3, ly_fv4, ly_fk, ly_ra, Option.toList, List.cons_append, List.nil_append, q_ski, q_skr, q_sku, if_true, if_false, e8, q_v247, q_tn, true_and, e0, show nI n ≤ nI n from Int32.le_refl _, q_ob_u]
        refine h _ (fun o a b c e => by rw [q_ob_n a]; exact hf3 o a b c e) ?_
        rw [q_ob_e, hfin]
      · intro i hi ih
        have hi8 : i < 8 := by omega
        have e0 : q_gri (μ3 84) i 0 = nI n := by rw [q_gri_o i (fun i hi => by omega), h30]
        have e1 : q_gri (μ3 84) i 1 = μ3 84 1 := q_gri_o i (fun i hi => by omega)
        have e43 : q_gri (μ3 84) i (43 + 4 * i) = μ3 84 (43 + 4 * i) := q_gri_o i (fun i' hi' => by omega)
        have e44 : q_gri (μ3 84) i (44 + 4 * i) = μ3 84 (44 + 4 * i) := q_gri_o i (fun i' hi' => by omega)
        have e45 : q_gri (μ3 84) i (45 + 4 * i) = μ3 84 (45 + 4 * i) := q_gri_o i (fun i' hi' => by omega)
        have e8 : ∀ F, gc_ob μ3 84 F 84 = F := fun F => q_ob_e
        refine (u181_41).mpr ?_
        simp only [u181_0, u181_1, u181_4, u181_6, u181_7, u181_10, u181_11, u181_12, u181_14, u181_15, u181_16, u181_17, u181_18, u181_19, u181_20, u181_23, u181_26, u181_27, u181_28, u181_31, u181_32, u181_35, u181_36, u181_39, u181_40, u181_42, u181_43, u181_46, u181_47, u181_48, u181_51, u181_52, u181_53, u181_54, u181_55, u181_56, u181_57, u181_60, u181_61, u181_62, u181_65, u181_66, u181_67, u181_69, u181_72, u181_75, u181_78, u181_81, u181_82, u181_85, u181_86, u181_87, u181_88, u181_89, u181_90, u181_91, ly_kd, ly_al, ly_fv0, ly_fv1, ly_fv2, ly_fv3, ly_fv4, ly_fk, ly_ra, Option.toList, List.cons_append, List.nil_append, q_ski, q_skr, q_sku, if_true, if_false, e8, q_v247, q_tn, true_and, e0, q_nle hi (by omega) rfl, m_of, q_wi hi8, m_grieves hi8, m_held, q_hdf, m_sets, q_ob_u, e1, e43, e44, e45, nI_1]
        exact ih
    have main2 : gc_W (gc_S (d+5)) cX12_yearGoes 12 2 R 41 [.ref 83, .int (nI w), .int (nI 0)] [] (gc_ob μ3 84 (q_gri (μ3 84) 0)) := main
    rwa [show gc_ob μ3 84 (q_gri (μ3 84) 0) = μ3 from q_ob_s] at main2
  simp only [s181, u181_0, u181_1, u181_4, u181_6, u181_7, u181_10, u181_11, u181_12, u181_14, u181_15, u181_16, u181_17, u181_18, u181_19, u181_20, u181_23, u181_26, u181_27, u181_28, u181_32, u181_35, u181_36, u181_39, u181_40, u181_42, u181_43, u181_46, u181_47, u181_48, u181_51, u181_52, u181_53, u181_54, u181_55, u181_56, u181_57, u181_60, u181_61, u181_62, u181_65, u181_66, u181_67, u181_69, u181_72, u181_75, u181_78, u181_81, u181_82, u181_85, u181_86, u181_87, u181_88, u181_89, u181_90, u181_91, ly_kd, ly_al, ly_fv0, ly_fv1, ly_fv2, ly_fv3, ly_fv4, ly_fk, ly_ra, Option.toList, List.cons_append, List.nil_append, q_ski, q_skr, q_sku, if_true, if_false, q_v247, q_tn, true_and, show (¬ (6 : Int32) = 0) ↔ True from by decide, hmod, e37, v37, c37, hw, m_isMourner, q_b0]
  by_cases hp : 0 ≤ nI w ∧ nI w ≤ μ 84 0 - 1
  · have hwn : w < n := by
      have h2 := hp.2
      rw [hn] at h2
      rcases Nat.eq_zero_or_pos n with rfl | hpos
      · exfalso
        have : nI 0 - 1 < nI w := by
          rw [fa_lt, nI_toInt (by omega)]
          have : (nI 0 - 1).toInt = -1 := by decide
          omega
        exact absurd h2 (Int32.not_le.mpr this)
      · rw [show (1 : Int32) = nI 1 from rfl, pk_sub hpos] at h2
        have := (nI_leI (by omega) (by omega)).mp h2
        omega
    simp only [hp, not_true, and_self, Option.toList, List.cons_append, List.nil_append, q_ski, q_skr, q_sku, if_true, if_false]
    refine m_weepsNow (i := w) (by omega) hok' (fun μ1 h1 hD1 => ?_)
    simp only [u181_0, u181_1, u181_4, u181_6, u181_7, u181_10, u181_11, u181_12, u181_14, u181_15, u181_16, u181_17, u181_18, u181_19, u181_20, u181_23, u181_26, u181_27, u181_28, u181_32, u181_35, u181_36, u181_39, u181_40, u181_42, u181_43, u181_46, u181_47, u181_48, u181_51, u181_52, u181_53, u181_54, u181_55, u181_56, u181_57, u181_60, u181_61, u181_62, u181_65, u181_66, u181_67, u181_69, u181_72, u181_75, u181_78, u181_81, u181_82, u181_85, u181_86, u181_87, u181_88, u181_89, u181_90, u181_91, ly_kd, ly_al, ly_fv0, ly_fv1, ly_fv2, ly_fv3, ly_fv4, ly_fk, ly_ra, Option.toList, List.cons_append, List.nil_append, q_ski, q_skr, q_sku, if_true, if_false]
    refine tail μ1 h1 (fun j hj hj2 => ?_) ?_ _ q_sku
    · obtain ⟨-, -, -, c, hcv, hc⟩ := hm w (by omega)
      rw [hD1]
      unfold q_weep
      rw [hcv, nI_clamp (by omega)]
      unfold upd
      rw [if_neg hj2]
      by_cases ht : μ 84 (21 + c) = 0
      · rw [if_pos ht, if_neg (by omega)]
      · rw [if_neg ht]
    · rw [hwho, if_pos hp, hD1, nI_clamp (by omega)]
  · simp only [hp, not_false_eq_true, Option.toList, List.cons_append, List.nil_append, q_ski, q_skr, q_sku, if_true, if_false]
    exact tail μ q_fr.rf (fun _ _ _ => rfl) (by rw [hwho, if_neg hp]) _ q_sku
