/-! the class: a CLOTH of the three, at k, with the laws at l -/
def q_K (k l : Nat) : Prop :=
  gc_kd k = 0 ∧ (∀ μ, gc_fv k 0 μ = .ref 1) ∧ (∀ μ, gc_fv k 1 μ = .ref l) ∧ (∀ μ, gc_fv k 2 μ = .ref (k + 1)) ∧ (∀ μ, gc_fv k 3 μ = .ref (k + 2)) ∧ (∀ μ, gc_fv k 4 μ = .ref (k + 3)) ∧ (∀ μ, gc_fv k 5 μ = .ref (k + 4)) ∧ (∀ μ, gc_fv k 6 μ = .ref (k + 5)) ∧ (∀ μ, gc_fv k 7 μ = .ref (k + 6)) ∧ (∀ μ, gc_fv k 8 μ = .ref (k + 7)) ∧ (∀ μ, gc_fv k 11 μ = .int (μ k 11)) ∧ (∀ μ, gc_fv k 12 μ = .int (μ k 12)) ∧ (∀ μ, gc_fv k 13 μ = .int (μ k 13)) ∧ (∀ μ, gc_fv k 14 μ = .int (μ k 14)) ∧ gc_kd (k + 1) = 20 ∧ gc_kd (k + 2) = 20 ∧ gc_kd (k + 3) = 20 ∧ gc_kd (k + 4) = 20 ∧ gc_kd (k + 5) = 20 ∧ gc_kd (k + 6) = 20 ∧ gc_kd (k + 7) = 20 ∧ gc_al (k + 1) = 16 ∧ gc_al (k + 2) = 16 ∧ gc_al (k + 3) = 6 ∧ gc_al (k + 4) = 8 ∧ gc_al (k + 5) = 8 ∧ gc_al (k + 6) = 8 ∧ gc_al (k + 7) = 8 ∧ gc_fk k 11 = 0 ∧ gc_fk k 12 = 0 ∧ gc_fk k 13 = 0 ∧ gc_fk k 14 = 0
theorem q_K31 : q_K 31 9 := ⟨rfl, fun _ => rfl, fun _ => rfl, fun _ => rfl, fun _ => rfl, fun _ => rfl, fun _ => rfl, fun _ => rfl, fun _ => rfl, fun _ => rfl, fun _ => rfl, fun _ => rfl, fun _ => rfl, fun _ => rfl, rfl, rfl, rfl, rfl, rfl, rfl, rfl, rfl, rfl, rfl, rfl, rfl, rfl, rfl, rfl, rfl, rfl, rfl⟩
theorem q_K43 : q_K 43 9 := ⟨rfl, fun _ => rfl, fun _ => rfl, fun _ => rfl, fun _ => rfl, fun _ => rfl, fun _ => rfl, fun _ => rfl, fun _ => rfl, fun _ => rfl, fun _ => rfl, fun _ => rfl, fun _ => rfl, fun _ => rfl, rfl, rfl, rfl, rfl, rfl, rfl, rfl, rfl, rfl, rfl, rfl, rfl, rfl, rfl, rfl, rfl, rfl, rfl⟩
theorem q_K55 : q_K 55 10 := ⟨rfl, fun _ => rfl, fun _ => rfl, fun _ => rfl, fun _ => rfl, fun _ => rfl, fun _ => rfl, fun _ => rfl, fun _ => rfl, fun _ => rfl, fun _ => rfl, fun _ => rfl, fun _ => rfl, fun _ => rfl, rfl, rfl, rfl, rfl, rfl, rfl, rfl, rfl, rfl, rfl, rfl, rfl, rfl, rfl, rfl, rfl, rfl, rfl⟩
theorem t_drawn {d : Nat} {R : gR} {μ : gM} {k l : Nat} (K : q_K k l) : gc_S (d + 1) 39 [.ref k] μ R ↔ R (some (.int (q_dz (q_z (μ k 14))))) (gc_up μ k 14 (q_z (μ k 14))) := by
  unfold q_K at K
  simp only [s39, u39_0, u39_1, u39_2, u39_5, u39_7, u39_8, u39_11, u39_12, u39_15, u39_16, u39_19, u39_21, u39_22, Option.toList, List.cons_append, List.nil_append, q_ski, q_skr, q_sku, if_true, if_false, K, q_up_same]
  exact Iff.rfl
theorem t_whole {d : Nat} {R : gR} {μ : gM} {k l : Nat} (K : q_K k l) : gc_S (d + 1) 4 [.ref k] μ R ↔ R (some (.int (65535 &&& (μ k 11 ^^^ -1)))) μ := by
  unfold q_K at K
  simp only [s4, u4_0, u4_2, u4_3, u4_6, u4_7, u4_8, u4_9, Option.toList, List.cons_append, List.nil_append, q_ski, q_skr, q_sku, if_true, if_false, K]
theorem t_wetCells {d : Nat} {R : gR} {μ : gM} {k l : Nat} (K : q_K k l) : gc_S (d + 1) 5 [.ref k] μ R ↔ R (some (.int (q_set (fun c => decide (0 < μ (k + 1) c)) 16))) μ := by
  unfold q_K at K
  simp only [s5, u5_0, u5_1, u5_2, u5_3, u5_5, u5_7, u5_10, u5_11, u5_14, u5_15, u5_16, u5_19, u5_20, u5_21, u5_22, u5_23, u5_24, u5_25, u5_28, u5_31, u5_32, Option.toList, List.cons_append, List.nil_append, q_ski, q_skr, q_sku, if_true, if_false]
  refine q_loop (X := fun c => gc_W (gc_S d) cX0_wetCells 0 0 R 4 [.ref k, .int (q_set (fun c => decide (0 < μ (k + 1) c)) c), .int (nI c)] [] μ) 16 (fun c hc => (u5_4).trans ?_) ?_
  · simp only [u5_0, u5_1, u5_2, u5_3, u5_5, u5_7, u5_10, u5_11, u5_14, u5_15, u5_16, u5_19, u5_20, u5_21, u5_22, u5_23, u5_24, u5_25, u5_28, u5_31, u5_32, q_nle hc (by decide) (show (16 : Int32) = nI 16 from rfl), K, vp_in_nI hc (by decide), true_and, nI_clamp (show c < 2 ^ 31 by omega), nI_1, q_set, Option.toList, List.cons_append, List.nil_append, q_ski, q_skr, q_sku, if_true, if_false]
    by_cases h : 0 < μ (k + 1) c
    · simp [h, Int32.not_le.mpr h]
    · simp [h, Int32.not_lt.mp h]
  · simp only [u5_0, u5_1, u5_2, u5_3, u5_4, u5_5, u5_7, u5_10, u5_11, u5_14, u5_15, u5_16, u5_19, u5_20, u5_21, u5_22, u5_23, u5_24, u5_25, u5_28, u5_31, u5_32, show (16 : Int32) ≤ nI 16 by decide, if_true]
theorem t_sorrowOfAll {d : Nat} {R : gR} {μ : gM} {k l n : Nat} (K : q_K k l) (hn : μ k 13 = nI n) (hn8 : n ≤ 8) : gc_S (d + 1) 9 [.ref k] μ R ↔ R (some (.int (q_sum (μ (k + 6)) n))) μ := by
  unfold q_K at K
  simp only [s9, u9_0, u9_1, u9_2, u9_3, u9_5, u9_6, u9_9, u9_12, u9_13, u9_14, u9_17, u9_18, u9_19, u9_20, u9_21, u9_24, u9_27, u9_28, Option.toList, List.cons_append, List.nil_append, q_ski, q_skr, q_sku, if_true, if_false]
  refine q_loop (X := fun c => gc_W (gc_S d) cX0_sorrowOfAll 0 0 R 4 [.ref k, .int (q_sum (μ (k + 6)) c), .int (nI c)] [] μ) n (fun c hc => (u9_4).trans ?_) ?_
  · simp only [u9_0, u9_1, u9_2, u9_3, u9_5, u9_6, u9_9, u9_12, u9_13, u9_14, u9_17, u9_18, u9_19, u9_20, u9_21, u9_24, u9_27, u9_28, hn, q_nle hc (show n < 2 ^ 31 by omega) rfl, K, vp_in_nI (show c < 8 by omega) (by decide), true_and, nI_clamp (show c < 2 ^ 31 by omega), nI_1, q_sum, q_ski, q_skr, q_sku, if_false]
  · simp only [u9_0, u9_1, u9_2, u9_3, u9_4, u9_5, u9_6, u9_9, u9_12, u9_13, u9_14, u9_17, u9_18, u9_19, u9_20, u9_21, u9_24, u9_27, u9_28, hn, K, show nI n ≤ nI n from Int32.le_refl _, if_true]
