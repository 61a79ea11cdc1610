theorem t_held {d : Nat} {R : gR} {μ : gM} {v : Int32} : gc_S (d + 1) 12 [.int v] μ R ↔ R (some (.int (q_hd v))) μ := by
  simp only [s12, u12_0, u12_1, u12_3, u12_4, u12_7, u12_10, Option.toList, List.cons_append, List.nil_append, q_ski, q_skr, q_sku, if_true, if_false]
  unfold q_hd
  by_cases h1 : v < 0
  · have h2 : v < 99 := Int32.lt_trans h1 (by decide)
    have h3 : ¬ (0 : Int32) < v := fun h => absurd (Int32.lt_trans h h1) (by decide)
    rw [if_pos h2, if_neg h3, if_pos h1]
  · rw [if_neg h1]
    by_cases h2 : 99 < v
    · have h3 : ¬ v < 99 := fun h => Int32.lt_irrefl (Int32.lt_trans h h2)
      rw [if_neg h3, if_pos h2, if_pos (by decide)]
    · rw [if_neg h2]
      have h4 : (if v < 99 then v else 99) = v := by
        by_cases h5 : v < 99
        · rw [if_pos h5]
        · rw [if_neg h5]; exact Int32.le_antisymm (Int32.not_lt.mp h5) (Int32.not_lt.mp h2)
      rw [h4]
      by_cases h3 : 0 < v
      · rw [if_pos h3]
      · rw [if_neg h3, Int32.le_antisymm (Int32.not_lt.mp h3) (Int32.not_lt.mp h1)]
/-- grief, of n of them -/
def q_gs (kd m s : Nat → Int32) (y : Int32) : Nat → (Nat → Int32)
  | 0 => s
  | n + 1 => upd (q_gs kd m s y n) n (q_hd (q_gs kd m s y n n + q_gr (kd n) (m n) y))
theorem t_grieve {d : Nat} {R : gR} {μ : gM} {k l n : Nat} (K : q_K k l) (hn : μ k 13 = nI n) (hn8 : n ≤ 8) (hk : ∀ i, i < 8 → ∃ w, μ (k + 4) i = nI w ∧ w ≤ 6) : gc_S (d + 3) 37 [.ref k] μ R ↔ R none (gc_ob μ (k + 6) (q_gs (μ (k + 4)) (μ (k + 5)) (μ (k + 6)) (μ k 12) n)) := by
  have K' := K
  unfold q_K at K
  simp only [s37, u37_0, u37_1, u37_3, u37_4, u37_7, u37_10, u37_11, u37_14, u37_15, u37_16, u37_19, u37_20, u37_21, u37_22, u37_23, u37_26, u37_27, u37_30, u37_31, u37_32, u37_33, u37_36_1, u37_36_3, u37_36_4, u37_36_5, u37_36_6, u37_36_8, u37_36_10, u37_39, u37_40, u37_43, u37_44, u37_47, u37_50, Option.toList, List.cons_append, List.nil_append, q_ski, q_skr, q_sku, if_true, if_false]
  have n0 : ∀ F j, gc_ob μ (k + 6) F k j = μ k j := fun F j => by rw [q_ob_n (by omega)]
  have n4 : ∀ F, gc_ob μ (k + 6) F (k + 4) = μ (k + 4) := fun F => q_ob_n (by omega)
  have n5 : ∀ F, gc_ob μ (k + 6) F (k + 5) = μ (k + 5) := fun F => q_ob_n (by omega)
  refine q_loop0 (X := fun c => gc_W (gc_S (d+2)) cX0_grieve 0 2 R 2 [.ref k, .int (nI c)] [] (gc_ob μ (k + 6) (q_gs (μ (k + 4)) (μ (k + 5)) (μ (k + 6)) (μ k 12) c))) n ?_ (fun c hc => (u37_2).trans ?_) ?_
  · show _ ↔ gc_W (gc_S (d+2)) cX0_grieve 0 2 R 2 [.ref k, .int (nI 0)] [] (gc_ob μ (k + 6) (μ (k + 6)))
    rw [q_ob_s]
    exact Iff.rfl
  · obtain ⟨w, hw, hw6⟩ := hk c (by omega)
    have v8 : vp_in (nI c) 8 := vp_in_nI (show c < 8 by omega) (by decide)
    have cc : (nI c).toNatClampNeg = c := nI_clamp (show c < 2 ^ 31 by omega)
    have es : q_gs (μ (k + 4)) (μ (k + 5)) (μ (k + 6)) (μ k 12) (c + 1) = upd (q_gs (μ (k + 4)) (μ (k + 5)) (μ (k + 6)) (μ k 12) c) c (q_hd (q_gs (μ (k + 4)) (μ (k + 5)) (μ (k + 6)) (μ k 12) c c + q_gr (μ (k + 4) c) (μ (k + 5) c) (μ k 12))) := rfl
    rw [es]
    generalize q_gs (μ (k + 4)) (μ (k + 5)) (μ (k + 6)) (μ k 12) c = F
    have hw' : gc_ob μ (k + 6) F (k + 4) c = nI w := by rw [n4]; exact hw
    rw [hw]
    simp only [u37_0, u37_1, u37_3, u37_4, u37_7, u37_10, u37_11, u37_14, u37_15, u37_16, u37_19, u37_20, u37_21, u37_22, u37_23, u37_26, u37_27, u37_30, u37_31, u37_32, u37_33, u37_36_1, u37_36_3, u37_36_4, u37_36_5, u37_36_6, u37_36_8, u37_36_10, u37_39, u37_40, u37_43, u37_44, u37_47, u37_50, hn, n0, q_nle hc (show n < 2 ^ 31 by omega) rfl, K, v8, cc, true_and, Option.toList, List.cons_append, List.nil_append, q_ski, q_skr, q_sku, if_true, if_false, t_kindOf K' (show c < 8 by omega) hw' hw6, n5, q_ob_e]
    have fin : ∀ g : Int32, gc_W (gc_S (d+2)) cX0_grieve 0 2 R 39 [.ref k, .int (nI c)] [.int g, .int (F c), .int (nI c), .ref (k + 6)] (gc_ob μ (k + 6) F) ↔ gc_W (gc_S (d+2)) cX0_grieve 0 2 R 2 [.ref k, .int (nI (c + 1))] [] (gc_ob μ (k + 6) (upd F c (q_hd (F c + g)))) := by
      intro g
      simp only [u37_0, u37_1, u37_3, u37_4, u37_7, u37_10, u37_11, u37_14, u37_15, u37_16, u37_19, u37_20, u37_21, u37_22, u37_23, u37_26, u37_27, u37_30, u37_31, u37_32, u37_33, u37_36_1, u37_36_3, u37_36_4, u37_36_5, u37_36_6, u37_36_8, u37_36_10, u37_39, u37_40, u37_43, u37_44, u37_47, u37_50, Option.toList, List.cons_append, List.nil_append, q_ski, q_skr, q_sku, if_true, if_false, K, v8, cc, true_and, t_held, q_up_ob, q_ob_e, q_ob_ob, nI_1]
    have r : w = 0 ∨ w = 1 ∨ w = 2 ∨ w = 3 ∨ w = 4 ∨ w = 5 ∨ w = 6 := by omega
    rcases r with r | r | r | r | r | r | r
    all_goals subst r
    · refine (u37_36_5 rfl).trans (Iff.trans t_g5 ?_); exact fin _
    · refine (u37_36_10 rfl).trans (Iff.trans t_g10 ?_); exact fin _
    · refine (u37_36_8 rfl).trans (Iff.trans t_g5 ?_); exact fin _
    · refine (u37_36_3 rfl).trans (Iff.trans t_g3 ?_); exact fin _
    · refine (u37_36_6 rfl).trans (Iff.trans (t_g6 (kd := 6) rfl rfl) ?_); exact fin _
    · refine (u37_36_4 rfl).trans (Iff.trans (t_g4 (kd := 4) rfl rfl) ?_); exact fin _
    · refine (u37_36_1 rfl).trans (Iff.trans t_g3 ?_); exact fin _
  · refine (u37_2).trans ?_
    simp only [u37_0, u37_1, u37_3, u37_4, u37_7, u37_10, u37_11, u37_14, u37_15, u37_16, u37_19, u37_20, u37_21, u37_22, u37_23, u37_26, u37_27, u37_30, u37_31, u37_32, u37_33, u37_36_1, u37_36_3, u37_36_4, u37_36_5, u37_36_6, u37_36_8, u37_36_10, u37_39, u37_40, u37_43, u37_44, u37_47, u37_50, n0, hn, K, show nI n ≤ nI n from Int32.le_refl _, if_true]
