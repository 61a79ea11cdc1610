/-- the reference's memory but for its scratch rows and its own row -/
def q_fr (μ μ' : gM) : Prop := ∀ o, o ≠ 84 → o ≠ 88 → o ≠ 90 → o ≠ 91 → μ' o = μ o
theorem q_fr.rf {μ : gM} : q_fr μ μ := fun _ _ _ _ _ => rfl
theorem q_fr.tr {μ μ1 μ2 : gM} (h : q_fr μ μ1) (h2 : q_fr μ1 μ2) : q_fr μ μ2 := fun o a b c e => (h2 o a b c e).trans (h o a b c e)
theorem q_wetv : ∀ c, c < 16 → ¬ ((5 + nI c) < 0 ∨ 247 ≤ (5 + nI c).toNatClampNeg) ∧ ¬ ((21 + nI c) < 0 ∨ 247 ≤ (21 + nI c).toNatClampNeg) ∧ (5 + nI c).toNatClampNeg = 5 + c ∧ (21 + nI c).toNatClampNeg = 21 + c := by decide +kernel
theorem q_wt {c : Nat} (hc : c < 16) : vp_in (5 + nI c) 247 ∧ vp_in (21 + nI c) 247 ∧ (5 + nI c).toNatClampNeg = 5 + c ∧ (21 + nI c).toNatClampNeg = 21 + c := q_wetv c hc
theorem m_weepsNow {d : Nat} {R : gR} {μ : gM} {i : Nat} (hi : i < 8) (hok : q_ok (μ 84)) (h : ∀ μ', q_fr μ μ' → μ' 84 = q_weep (μ 84) i → R none μ') : gc_S (d + 5) 178 [.ref 83, .int (nI i)] μ R := by
  obtain ⟨-, -, -, -, -, hm, hwf⟩ := hok
  obtain ⟨-, -, -, c, hcv, hc⟩ := hm i hi
  have hc : c < 16 := by omega
  simp only [s178, u178_0, u178_1, u178_2, u178_5, u178_6, u178_7, u178_8, u178_9, u178_12, u178_13, u178_14, u178_17, u178_19, u178_20, u178_21, u178_22, u178_25, u178_26, u178_29, u178_30, u178_31, u178_32, u178_33, u178_36, u178_37, u178_38, u178_39, u178_40, u178_41, u178_42, u178_43, u178_45, u178_48, u178_49, u178_50, u178_51, u178_52, u178_53, u178_54, u178_55, u178_58, u178_59, u178_60, u178_61, u178_64, u178_65, u178_66, u178_68, u178_71, u178_74, ly_kd, ly_al, ly_fv0, ly_fv1, ly_fv2, ly_fv3, ly_fv4, ly_fk, ly_ra, Option.toList, List.cons_append, List.nil_append, q_ski, q_skr, q_sku, if_true, if_false]
  refine m_wept hi hwf (fun μ1 h1 => ?_)
  have e84 : μ1 84 = μ 84 := h1 84 (by decide) (by decide)
  have hq : q_weep (μ 84) i = upd (if μ 84 (21 + c) = 0 then upd (μ 84) (5 + c) (q_hd (μ 84 (5 + c) + q_wept (μ 84) i)) else μ 84) (45 + 4 * i) (q_hd (μ 84 (45 + 4 * i) - q_es (μ 84 (43 + 4 * i)) (μ 84 (44 + 4 * i)) (q_wept (μ 84) i))) := by
    unfold q_weep
    rw [hcv, nI_clamp (by omega)]
  have n1 : (5 : Nat) + c ≠ 43 + 4 * i := by omega
  have n2 : (5 : Nat) + c ≠ 44 + 4 * i := by omega
  have n3 : (5 : Nat) + c ≠ 45 + 4 * i := by omega
  by_cases ht : μ 84 (21 + c) = 0
  · have ht' := eq_true ht
    simp only [u178_0, u178_1, u178_2, u178_5, u178_6, u178_7, u178_8, u178_9, u178_12, u178_13, u178_14, u178_17, u178_19, u178_20, u178_21, u178_22, u178_25, u178_26, u178_29, u178_30, u178_31, u178_32, u178_33, u178_36, u178_37, u178_38, u178_39, u178_40, u178_41, u178_42, u178_43, u178_45, u178_48, u178_49, u178_50, u178_51, u178_52, u178_53, u178_54, u178_55, u178_58, u178_59, u178_60, u178_61, u178_64, u178_65, u178_66, u178_68, u178_71, u178_74, ly_kd, ly_al, ly_fv0, ly_fv1, ly_fv2, ly_fv3, ly_fv4, ly_fk, ly_ra, Option.toList, List.cons_append, List.nil_append, q_ski, q_skr, q_sku, if_true, if_false, m_of, q_wi hi, q_wt hc, e84, hcv, true_and, ht', m_held, q_hdf, m_sets, m_eases hi, q_up_j (Ne.symm n1), q_up_j (Ne.symm n2), q_up_j (Ne.symm n3)]
    refine h _ (fun o a b c e => ?_) ?_
    · rw [gc_up_ne a, gc_up_ne a]; exact h1 o b c
    · rw [hq, if_pos ht, gc_up_eq, gc_up_eq, e84]
  · have ht' := eq_false ht
    simp only [u178_0, u178_1, u178_2, u178_5, u178_6, u178_7, u178_8, u178_9, u178_12, u178_13, u178_14, u178_17, u178_19, u178_20, u178_21, u178_22, u178_25, u178_26, u178_29, u178_30, u178_31, u178_32, u178_33, u178_36, u178_37, u178_38, u178_39, u178_40, u178_41, u178_42, u178_43, u178_45, u178_48, u178_49, u178_50, u178_51, u178_52, u178_53, u178_54, u178_55, u178_58, u178_59, u178_60, u178_61, u178_64, u178_65, u178_66, u178_68, u178_71, u178_74, ly_kd, ly_al, ly_fv0, ly_fv1, ly_fv2, ly_fv3, ly_fv4, ly_fk, ly_ra, Option.toList, List.cons_append, List.nil_append, q_ski, q_skr, q_sku, if_true, if_false, m_of, q_wi hi, q_wt hc, e84, hcv, true_and, ht', m_held, q_hdf, m_sets, m_eases hi]
    refine h _ (fun o a b c e => ?_) ?_
    · rw [gc_up_ne a]; exact h1 o b c
    · rw [hq, if_neg ht, gc_up_eq, e84]
