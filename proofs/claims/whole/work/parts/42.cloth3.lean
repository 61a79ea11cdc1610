def q_sq (torn : Int32) (was w : Nat → Int32) : Nat → (Nat → Int32)
  | 0 => w
  | c + 1 => (if c < 12 then q_sp torn was c (c + 4) else fun x => x) ((if c % 4 < 3 then q_sp torn was c (c + 1) else fun x => x) (q_sq torn was w c))
theorem t_seep {d : Nat} {R : gR} {μ : gM} {k l : Nat} (K : q_K k l) : gc_S (d + 2) 27 [.ref k] μ R ↔ R none (gc_ob (gc_cp μ (k + 1) (k + 2) 0 0 16) (k + 1) (q_sq (μ k 11) (va_cpy (μ (k + 1)) (μ (k + 2)) 0 0 16) (μ (k + 1)) 16)) := by
  have K' := K
  unfold q_K at K
  simp only [s27, u27_0, u27_1, u27_4, u27_5, u27_6, u27_9, u27_10, u27_12, u27_15, u27_16, u27_18, u27_20, u27_23, u27_24, u27_25, u27_26, u27_27, u27_30, u27_31, u27_32, u27_33, u27_34, u27_35, u27_38, u27_39, u27_41, u27_44, u27_45, u27_46, u27_47, u27_48, u27_49, u27_52, u27_55, u27_58, Option.toList, List.cons_append, List.nil_append, q_ski, q_skr, q_sku, if_true, if_false, K]
  rw [and_iff_right ⟨by decide, by decide, by decide, by decide, by decide⟩]
  have g0 : gc_cp μ (k + 1) (k + 2) 0 0 16 k 11 = μ k 11 := by rw [gc_cp_ne (by omega)]
  have g1 : gc_cp μ (k + 1) (k + 2) 0 0 16 (k + 1) = μ (k + 1) := gc_cp_ne (by omega)
  have g2 : gc_cp μ (k + 1) (k + 2) 0 0 16 (k + 2) = va_cpy (μ (k + 1)) (μ (k + 2)) 0 0 16 := gc_cp_eq
  rw [show (0 : Int32).toNatClampNeg = 0 by decide, show (16 : Int32).toNatClampNeg = 16 by decide]
  generalize gc_cp μ (k + 1) (k + 2) 0 0 16 = μ1 at g0 g1 g2 ⊢
  generalize va_cpy (μ (k + 1)) (μ (k + 2)) 0 0 16 = was at g2 ⊢
  have n0 : ∀ F, gc_ob μ1 (k + 1) F k 11 = μ k 11 := fun F => by rw [q_ob_n (by omega), g0]
  have n2 : ∀ F, gc_ob μ1 (k + 1) F (k + 2) = was := fun F => by rw [q_ob_n (by omega), g2]
  refine q_loop0 (X := fun c => gc_W (gc_S (d+1)) cX0_seep 0 2 R 17 [.ref k, .int (nI c)] [] (gc_ob μ1 (k + 1) (q_sq (μ k 11) was (μ (k + 1)) c))) 16 ?_ (fun c hc => (u27_17).trans ?_) ?_
  · show _ ↔ gc_W (gc_S (d+1)) cX0_seep 0 2 R 17 [.ref k, .int (nI 0)] [] (gc_ob μ1 (k + 1) (μ (k + 1)))
    rw [← g1, q_ob_s]
    exact Iff.rfl
  · have second : ∀ F, gc_W (gc_S (d+1)) cX0_seep 0 2 R 38 [.ref k, .int (nI c)] [] (gc_ob μ1 (k + 1) F) ↔ gc_W (gc_S (d+1)) cX0_seep 0 2 R 17 [.ref k, .int (nI (c + 1))] [] (gc_ob μ1 (k + 1) ((if c < 12 then q_sp (μ k 11) was c (c + 4) else fun x => x) F)) := by
      intro F
      by_cases h : c < 12
      · rw [if_pos h]
        simp only [u27_0, u27_1, u27_4, u27_5, u27_6, u27_9, u27_10, u27_12, u27_15, u27_16, u27_18, u27_20, u27_23, u27_24, u27_25, u27_26, u27_27, u27_30, u27_31, u27_32, u27_33, u27_34, u27_35, u27_38, u27_39, u27_41, u27_44, u27_45, u27_46, u27_47, u27_48, u27_49, u27_52, u27_55, u27_58, q_nle h (by decide) (show (12 : Int32) = nI 12 from rfl), Option.toList, List.cons_append, List.nil_append, q_ski, q_skr, q_sku, if_true, if_false, K, show nI c + 4 = nI (c + 4) from nI_add c 4, t_seepBetween K' (show c < 16 by omega) (show c + 4 < 16 by omega), n0, n2, q_ob_e, q_ob_ob, nI_1]
      · rw [if_neg h]
        simp only [u27_0, u27_1, u27_4, u27_5, u27_6, u27_9, u27_10, u27_12, u27_15, u27_16, u27_18, u27_20, u27_23, u27_24, u27_25, u27_26, u27_27, u27_30, u27_31, u27_32, u27_33, u27_34, u27_35, u27_38, u27_39, u27_41, u27_44, u27_45, u27_46, u27_47, u27_48, u27_49, u27_52, u27_55, u27_58, show (12 : Int32) ≤ nI c from nI_le (show 12 ≤ c by omega) (by omega), Option.toList, List.cons_append, List.nil_append, q_ski, q_skr, q_sku, if_true, if_false, K, nI_1]
    have er : nI c - nI c / 4 * 4 = nI (c % 4) := by rw [show (4 : Int32) = nI 4 from rfl, pk_rem (by omega) (by decide) (by decide)]
    have es : q_sq (μ k 11) was (μ (k + 1)) (c + 1) = (if c < 12 then q_sp (μ k 11) was c (c + 4) else fun x => x) ((if c % 4 < 3 then q_sp (μ k 11) was c (c + 1) else fun x => x) (q_sq (μ k 11) was (μ (k + 1)) c)) := rfl
    rw [es]
    refine Iff.trans ?_ (second _)
    by_cases h : c % 4 < 3
    · rw [if_pos h]
      simp only [u27_0, u27_1, u27_4, u27_5, u27_6, u27_9, u27_10, u27_12, u27_15, u27_16, u27_18, u27_20, u27_23, u27_24, u27_25, u27_26, u27_27, u27_30, u27_31, u27_32, u27_33, u27_34, u27_35, u27_39, u27_41, u27_44, u27_45, u27_46, u27_47, u27_48, u27_49, u27_52, u27_55, u27_58, q_nle hc (by decide) (show (16 : Int32) = nI 16 from rfl), er, q_nle h (by decide) (show (3 : Int32) = nI 3 from rfl), show ¬ (4 : Int32) = 0 by decide, not_false_eq_true, true_and, Option.toList, List.cons_append, List.nil_append, q_ski, q_skr, q_sku, if_true, if_false, K, nI_1, t_seepBetween K' (show c < 16 by omega) (show c + 1 < 16 by omega), n0, n2, q_ob_e, q_ob_ob]
    · rw [if_neg h]
      simp only [u27_0, u27_1, u27_4, u27_5, u27_6, u27_9, u27_10, u27_12, u27_15, u27_16, u27_18, u27_20, u27_23, u27_24, u27_25, u27_26, u27_27, u27_30, u27_31, u27_32, u27_33, u27_34, u27_35, u27_39, u27_41, u27_44, u27_45, u27_46, u27_47, u27_48, u27_49, u27_52, u27_55, u27_58, q_nle hc (by decide) (show (16 : Int32) = nI 16 from rfl), er, show (3 : Int32) ≤ nI (c % 4) from nI_le (show 3 ≤ c % 4 by omega) (by omega), show ¬ (4 : Int32) = 0 by decide, not_false_eq_true, true_and, Option.toList, List.cons_append, List.nil_append, q_ski, q_skr, q_sku, if_true, if_false, K]
  · refine (u27_17).trans ?_
    simp only [u27_0, u27_1, u27_4, u27_5, u27_6, u27_9, u27_10, u27_12, u27_15, u27_16, u27_18, u27_20, u27_23, u27_24, u27_25, u27_26, u27_27, u27_30, u27_31, u27_32, u27_33, u27_34, u27_35, u27_38, u27_39, u27_41, u27_44, u27_45, u27_46, u27_47, u27_48, u27_49, u27_52, u27_55, u27_58, show (16 : Int32) ≤ nI 16 by decide, if_true]
