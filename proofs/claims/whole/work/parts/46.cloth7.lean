theorem q_and5 : (¬ (0 : Int32) < 0 ∧ ¬ (0 : Int32) < 0 ∧ ¬ (16 : Int32) < 0 ∧ Int32.toNatClampNeg 0 + Int32.toNatClampNeg 16 ≤ 16 ∧ Int32.toNatClampNeg 0 + Int32.toNatClampNeg 16 ≤ 16) = True := eq_true (by decide)
theorem q_and5b : (¬ (0 : Int32) < 0 ∧ ¬ (0 : Int32) < 0 ∧ ¬ (6 : Int32) < 0 ∧ Int32.toNatClampNeg 0 + Int32.toNatClampNeg 6 ≤ 6 ∧ Int32.toNatClampNeg 0 + Int32.toNatClampNeg 6 ≤ 6) = True := eq_true (by decide)
theorem q_and5c : (¬ (0 : Int32) < 0 ∧ ¬ (0 : Int32) < 0 ∧ ¬ (8 : Int32) < 0 ∧ Int32.toNatClampNeg 0 + Int32.toNatClampNeg 8 ≤ 8 ∧ Int32.toNatClampNeg 0 + Int32.toNatClampNeg 8 ≤ 8) = True := eq_true (by decide)
/-- a cloth at k takes another's at j -/
def q_tks (μ : gM) (k j : Nat) : gM :=
  let μ1 := gc_cp (gc_cp (gc_cp (gc_cp (gc_cp (gc_cp μ (j + 1) (k + 1) 0 0 16) (j + 3) (k + 3) 0 0 6) (j + 4) (k + 4) 0 0 8) (j + 5) (k + 5) 0 0 8) (j + 6) (k + 6) 0 0 8) (j + 7) (k + 7) 0 0 8
  let μ2 := gc_up μ1 k 11 (μ1 j 11)
  let μ3 := gc_up μ2 k 12 (μ2 j 12)
  gc_up μ3 k 13 (μ3 j 13)
theorem t_takes {d : Nat} {R : gR} {μ : gM} {k l j lj : Nat} (K : q_K k l) (J : q_K j lj) : gc_S (d + 1) 0 [.ref k, .ref j] μ R ↔ R none (q_tks μ k j) := by
  unfold q_K at K J
  simp only [s0, u0_0, u0_1, u0_4, u0_5, u0_6, u0_9, u0_10, u0_12, u0_15, u0_16, u0_19, u0_20, u0_21, u0_24, u0_25, u0_27, u0_30, u0_31, u0_34, u0_35, u0_36, u0_39, u0_40, u0_42, u0_45, u0_46, u0_49, u0_50, u0_51, u0_54, u0_55, u0_57, u0_60, u0_61, u0_64, u0_65, u0_66, u0_69, u0_70, u0_72, u0_75, u0_76, u0_79, u0_80, u0_81, u0_84, u0_85, u0_87, u0_90, u0_91, u0_92, u0_95, u0_98, u0_99, u0_100, u0_103, u0_106, u0_107, u0_108, u0_111, u0_114, Option.toList, List.cons_append, List.nil_append, q_ski, q_skr, q_sku, if_true, if_false, K, J, q_and5, q_and5b, q_and5c, true_and]
  exact Iff.rfl
