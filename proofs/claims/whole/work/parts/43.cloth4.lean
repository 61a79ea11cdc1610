theorem t_w5 {d o : Nat} {R : gR} {μ : gM} {m s : Int32} : gc_S (d + 1) 14 [.ref o, .int m, .int s] μ R ↔ R (some (.int (s / 4 + 1))) μ := by
  simp only [s14, u14_0, u14_1, u14_2, u14_3, u14_4, u14_5, Option.toList, List.cons_append, List.nil_append, q_ski, q_skr, q_sku, if_true, if_false, show ¬ (4 : Int32) = 0 by decide, not_false_eq_true, true_and]
theorem t_w10 {d o kd : Nat} {R : gR} {μ : gM} {m s : Int32} (hk : gc_kd o = kd) (hkd : Nat.blt kd 13 = true) : gc_S (d + 2) 19 [.ref o, .int m, .int s] μ R ↔ R (some (.int (2 * (s / 4 + 1)))) μ := by
  simp only [s19, u19_0, u19_1, u19_2, u19_3, u19_4, u19_7, u19_8, Option.toList, List.cons_append, List.nil_append, q_ski, q_skr, q_sku, if_true, if_false, hk, hkd, t_w5]
theorem t_w8 {d o kd : Nat} {R : gR} {μ : gM} {m s : Int32} (hk : gc_kd o = kd) (hkd : Nat.blt kd 13 = true) : gc_S (d + 2) 17 [.ref o, .int m, .int s] μ R ↔ R (some (.int (if 0 < s / 4 + 1 - 3 then s / 4 + 1 - 3 else 0))) μ := by
  simp only [s17, u17_0, u17_1, u17_2, u17_3, u17_4, u17_7, u17_8, u17_9, u17_12, Option.toList, List.cons_append, List.nil_append, q_ski, q_skr, q_sku, if_true, if_false, hk, hkd, t_w5]
theorem t_w3 {d o kd : Nat} {R : gR} {μ : gM} {m s : Int32} (hk : gc_kd o = kd) (hkd : Nat.blt kd 13 = true) : gc_S (d + 2) 15 [.ref o, .int m, .int s] μ R ↔ R (some (.int (if s < 50 then 0 else s / 4 + 1))) μ := by
  simp only [s15, u15_0, u15_1, u15_3, u15_6, u15_7, u15_10, u15_11, u15_12, u15_13, u15_16, Option.toList, List.cons_append, List.nil_append, q_ski, q_skr, q_sku, if_true, if_false, hk, hkd, t_w5]
  by_cases h : s < 50
  · simp only [h, Int32.not_le.mpr h, if_true, if_false]
  · simp only [h, Int32.not_lt.mp h, if_true, if_false]
theorem t_w6 {d o kd : Nat} {R : gR} {μ : gM} {m s : Int32} (hk : gc_kd o = kd) (hkd : Nat.blt kd 13 = true) : gc_S (d + 3) 20 [.ref o, .int m, .int s] μ R ↔ R (some (.int (2 * (s / 4 + 1) + 10))) μ := by
  simp only [s20, u20_0, u20_1, u20_2, u20_3, u20_6, u20_8, u20_9, Option.toList, List.cons_append, List.nil_append, q_ski, q_skr, q_sku, if_true, if_false, hk, hkd, t_w10 hk hkd]
theorem t_w4 {d o kd : Nat} {R : gR} {μ : gM} {m s : Int32} (hk : gc_kd o = kd) (hkd : Nat.blt kd 13 = true) : gc_S (d + 3) 18 [.ref o, .int m, .int s] μ R ↔ R (some (.int ((if 0 < s / 4 + 1 - 3 then s / 4 + 1 - 3 else 0) + m))) μ := by
  simp only [s18, u18_0, u18_1, u18_2, u18_3, u18_6, u18_7, u18_8, Option.toList, List.cons_append, List.nil_append, q_ski, q_skr, q_sku, if_true, if_false, hk, hkd, t_w8 hk hkd]
theorem t_w1 {d o kd : Nat} {R : gR} {μ : gM} {m s : Int32} (hk : gc_kd o = kd) (hkd : Nat.blt kd 13 = true) : gc_S (d + 3) 16 [.ref o, .int m, .int s] μ R ↔ R (some (.int (if 0 < (if s < 50 then 0 else s / 4 + 1) - m then (if s < 50 then 0 else s / 4 + 1) - m else 0))) μ := by
  simp only [s16, u16_0, u16_1, u16_2, u16_3, u16_4, u16_7, u16_8, u16_9, u16_12, Option.toList, List.cons_append, List.nil_append, q_ski, q_skr, q_sku, if_true, if_false, hk, hkd, t_w3 hk hkd]
theorem t_e5 {d o : Nat} {R : gR} {μ : gM} {m w : Int32} : gc_S (d + 1) 23 [.ref o, .int m, .int w] μ R ↔ R (some (.int (w / 2))) μ := by
  simp only [s23, u23_0, u23_1, u23_2, u23_3, Option.toList, List.cons_append, List.nil_append, q_ski, q_skr, q_sku, if_true, if_false, show ¬ (2 : Int32) = 0 by decide, not_false_eq_true, true_and]
theorem t_e8 {d o kd : Nat} {R : gR} {μ : gM} {m w : Int32} (hk : gc_kd o = kd) (hkd : Nat.blt kd 13 = true) : gc_S (d + 2) 24 [.ref o, .int m, .int w] μ R ↔ R (some (.int (w / 2 + 3))) μ := by
  simp only [s24, u24_0, u24_1, u24_2, u24_3, u24_6, u24_7, u24_8, Option.toList, List.cons_append, List.nil_append, q_ski, q_skr, q_sku, if_true, if_false, hk, hkd, t_e5]
theorem t_e6 {d o : Nat} {R : gR} {μ : gM} {m w : Int32} : gc_S (d + 1) 25 [.ref o, .int m, .int w] μ R ↔ R (some (.int 0)) μ := by
  simp only [s25, u25_0, u25_1, Option.toList, List.cons_append, List.nil_append, q_ski, q_skr, q_sku, if_true, if_false]
theorem t_e1 {d o kd : Nat} {R : gR} {μ : gM} {m w : Int32} (hk : gc_kd o = kd) (hkd : Nat.blt kd 13 = true) : gc_S (d + 2) 22 [.ref o, .int m, .int w] μ R ↔ R (some (.int (w / 2 + m))) μ := by
  simp only [s22, u22_0, u22_1, u22_2, u22_3, u22_6, u22_7, u22_8, Option.toList, List.cons_append, List.nil_append, q_ski, q_skr, q_sku, if_true, if_false, hk, hkd, t_e5]
theorem t_g5 {d o : Nat} {R : gR} {μ : gM} {m y : Int32} : gc_S (d + 1) 33 [.ref o, .int m, .int y] μ R ↔ R (some (.int 2)) μ := by
  simp only [s33, u33_0, u33_1, Option.toList, List.cons_append, List.nil_append, q_ski, q_skr, q_sku, if_true, if_false]
theorem t_g3 {d o : Nat} {R : gR} {μ : gM} {m y : Int32} : gc_S (d + 1) 32 [.ref o, .int m, .int y] μ R ↔ R (some (.int 1)) μ := by
  simp only [s32, u32_0, u32_1, Option.toList, List.cons_append, List.nil_append, q_ski, q_skr, q_sku, if_true, if_false]
theorem t_g10 {d o : Nat} {R : gR} {μ : gM} {m y : Int32} : gc_S (d + 1) 35 [.ref o, .int m, .int y] μ R ↔ R (some (.int 5)) μ := by
  simp only [s35, u35_0, u35_1, Option.toList, List.cons_append, List.nil_append, q_ski, q_skr, q_sku, if_true, if_false]
theorem t_g6 {d o kd : Nat} {R : gR} {μ : gM} {m y : Int32} (hk : gc_kd o = kd) (hkd : Nat.blt kd 13 = true) : gc_S (d + 2) 36 [.ref o, .int m, .int y] μ R ↔ R (some (.int (5 + m / 3))) μ := by
  simp only [s36, u36_0, u36_1, u36_2, u36_3, u36_6, u36_7, u36_8, u36_9, u36_10, Option.toList, List.cons_append, List.nil_append, q_ski, q_skr, q_sku, if_true, if_false, hk, hkd, t_g10, show ¬ (3 : Int32) = 0 by decide, not_false_eq_true, true_and]
theorem t_g4 {d o kd : Nat} {R : gR} {μ : gM} {m y : Int32} (hk : gc_kd o = kd) (hkd : Nat.blt kd 13 = true) : gc_S (d + 2) 34 [.ref o, .int m, .int y] μ R ↔ R (some (.int (if y - y / 2 * 2 = 0 then 2 else 0))) μ := by
  simp only [s34, u34_0, u34_1, u34_2, u34_3, u34_6, u34_7, u34_8, u34_9, u34_12, u34_15, u34_16, Option.toList, List.cons_append, List.nil_append, q_ski, q_skr, q_sku, if_true, if_false, hk, hkd, t_g5, show ¬ (2 : Int32) = 0 by decide, not_false_eq_true, true_and]
  by_cases h : y - y / 2 * 2 = 0
  · simp only [h, if_true]
  · simp only [h, if_false]
theorem t_kindOf {d : Nat} {R : gR} {μ : gM} {k l i w : Nat} (K : q_K k l) (hi : i < 8) (hw : μ (k + 4) i = nI w) (hw6 : w ≤ 6) : gc_S (d + 1) 3 [.ref k, .int (nI i)] μ R ↔ R (some (.ref (2 + 1 * w))) μ := by
  unfold q_K at K
  simp only [s3, u3_0, u3_1, u3_4, u3_5, u3_8, u3_9, u3_10, u3_11, ly_kd, ly_al, ly_fv0, ly_fv1, ly_fv2, ly_fv3, ly_fv4, ly_fk, ly_ra, Option.toList, List.cons_append, List.nil_append, q_ski, q_skr, q_sku, if_true, if_false, K, vp_in_nI hi (by decide), nI_clamp (show i < 2 ^ 31 by omega), hw, vp_in_nI (show w < 7 by omega) (by decide), nI_clamp (show w < 2 ^ 31 by omega), true_and]
  rw [u3_10 (q := 22) rfl rfl]
  simp only [u3_0, u3_1, u3_4, u3_5, u3_8, u3_9, u3_10, u3_11, ly_kd, ly_al, ly_fv0, ly_fv1, ly_fv2, ly_fv3, ly_fv4, ly_fk, ly_ra, Option.toList, List.cons_append, List.nil_append, q_ski, q_skr, q_sku, if_true, if_false, vp_in_nI (show w < 7 by omega) (by decide), nI_clamp (show w < 2 ^ 31 by omega), true_and]
