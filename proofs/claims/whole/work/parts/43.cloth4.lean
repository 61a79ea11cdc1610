theorem t_w5 {d o : Nat} {R : gR} {μ : gM} {m s : Int32} : gc_S (d + 1) 14 [.ref o, .int m, .int s] μ R ↔ R (some (.int (s / 4 + 1))) μ := by
  simp only [s14, u14_0, u14_1, u14_2, u14_3, u14_4, u14_5, Option.toList, List.cons_append, List.nil_append, q_ski, q_skr, q_sku, if_true, if_false, show ¬ (4 : Int32) = 0 by decide, not_false_eq_true, true_and]
theorem t_w10 {d o kd : Nat} {R : gR} {μ : gM} {m s : Int32} (hk : gc_kd o = kd) (hkd : Nat.blt kd 13 = true) : gc_S (d + 2) 19 [.ref o, .int m, .int s] μ R ↔ R (some (.int (2 * (s / 4 + 1)))) μ := by
  simp only [s19, u19_0, u19_1, u19_2, u19_3, u19_4, u19_7, u19_8, Option.toList, List.cons_append, List.nil_append, q_ski, q_skr, q_sku, if_true, if_false, hk, hkd, t_w5]
