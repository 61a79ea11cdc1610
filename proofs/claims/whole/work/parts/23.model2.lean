theorem q_wiB : ∀ i, i < 8 → (¬ ((43 + 4 * nI i + 0) < 0 ∨ 247 ≤ (43 + 4 * nI i + 0).toNatClampNeg)) ∧ (¬ ((43 + 4 * nI i + 1) < 0 ∨ 247 ≤ (43 + 4 * nI i + 1).toNatClampNeg)) ∧ (¬ ((43 + 4 * nI i + 2) < 0 ∨ 247 ≤ (43 + 4 * nI i + 2).toNatClampNeg)) ∧ (¬ ((43 + 4 * nI i + 3) < 0 ∨ 247 ≤ (43 + 4 * nI i + 3).toNatClampNeg)) ∧ (43 + 4 * nI i + 0).toNatClampNeg = 43 + 4 * i ∧ (43 + 4 * nI i + 1).toNatClampNeg = 44 + 4 * i ∧ (43 + 4 * nI i + 2).toNatClampNeg = 45 + 4 * i ∧ (43 + 4 * nI i + 3).toNatClampNeg = 46 + 4 * i := by decide +kernel
theorem q_wi {i : Nat} (hi : i < 8) : vp_in (43 + 4 * nI i + 0) 247 ∧ vp_in (43 + 4 * nI i + 1) 247 ∧ vp_in (43 + 4 * nI i + 2) 247 ∧ vp_in (43 + 4 * nI i + 3) 247 ∧ (43 + 4 * nI i + 0).toNatClampNeg = 43 + 4 * i ∧ (43 + 4 * nI i + 1).toNatClampNeg = 44 + 4 * i ∧ (43 + 4 * nI i + 2).toNatClampNeg = 45 + 4 * i ∧ (43 + 4 * nI i + 3).toNatClampNeg = 46 + 4 * i := q_wiB i hi
theorem m_sumOf {d : Nat} {R : gR} {μ : gM} {f n b : Nat} (h : ∀ k, k < n → f + b * k < 247) (hn : n < 100) (hb : b < 100) (hf : f < 247) : gc_S (d + 1) 183 [.ref 83, .int (nI f), .int (nI n), .int (nI b)] μ R ↔ R (some (.int (q_sum (fun k => μ 84 (f + b * k)) n))) μ := by
  simp only [s183, u183_0, u183_1, u183_3, u183_4, u183_8, u183_9, u183_12, u183_14, u183_15, u183_18, u183_19, u183_20, u183_22, u183_23, u183_24, u183_25, u183_26, u183_28, u183_31, u183_34, u183_36, Option.toList, List.cons_append, List.nil_append, q_ski, q_skr, q_sku, if_true, if_false]
  refine q_loop (X := fun c => gc_W (gc_S d) cX12_sumOf 12 0 R 6 [.ref 83, .int (nI f), .int (nI n), .int (nI b), .int (q_sum (fun k => μ 84 (f + b * k)) c), .int (nI c)] [] μ) n (fun c hc => (u183_6).trans ?_) ?_
  · have e : nI f + nI b * nI c = nI (f + b * c) := by rw [pk_mul, nI_add]
    simp only [u183_0, u183_1, u183_3, u183_4, u183_8, u183_9, u183_12, u183_14, u183_15, u183_18, u183_19, u183_20, u183_22, u183_23, u183_24, u183_25, u183_26, u183_28, u183_31, u183_34, u183_36, q_nle hc (by omega) rfl, ly_kd, ly_al, ly_fv0, ly_fv1, ly_fv2, ly_fv3, ly_fv4, ly_fk, ly_ra, Option.toList, List.cons_append, List.nil_append, q_ski, q_skr, q_sku, if_true, if_false, e, vp_in_nI (h c hc) (by decide), true_and, nI_clamp (show f + b * c < 2 ^ 31 by have := h c hc; omega), nI_1, q_sum]
  · simp only [u183_0, u183_1, u183_3, u183_4, u183_6, u183_8, u183_9, u183_12, u183_14, u183_15, u183_18, u183_19, u183_20, u183_22, u183_23, u183_24, u183_25, u183_26, u183_28, u183_31, u183_34, u183_36, show nI n ≤ nI n from Int32.le_refl _, if_true]
theorem m_allWet {d : Nat} {R : gR} {μ : gM} : gc_S (d + 2) 184 [.ref 83] μ R ↔ R (some (.int (q_sum (fun c => μ 84 (5 + 1 * c)) 16))) μ := by
  simp only [s184, u184_0, u184_1, u184_2, u184_4, u184_5, u184_8, ly_kd, ly_al, ly_fv0, ly_fv1, ly_fv2, ly_fv3, ly_fv4, ly_fk, ly_ra, Option.toList, List.cons_append, List.nil_append, q_ski, q_skr, q_sku, if_true, if_false]
  rw [show (5 : Int32) = nI 5 from rfl, show (16 : Int32) = nI 16 from rfl, show (1 : Int32) = nI 1 from rfl, m_sumOf (fun k hk => by omega) (by omega) (by omega) (by omega)]
  simp only [u184_0, u184_1, u184_2, u184_4, u184_5, u184_8, Option.toList, List.cons_append, List.nil_append, q_ski, q_skr, q_sku, if_true, if_false]
theorem q_bsB : ∀ i, i < 16 → ∀ j, j < 16 → ((((nI i - nI i / 4 * 4) - (nI j - nI j / 4 * 4)) * ((nI i - nI i / 4 * 4) - (nI j - nI j / 4 * 4)) + (nI i / 4 - nI j / 4) * (nI i / 4 - nI j / 4) = 1) ↔ q_adj i j = true) := by decide +kernel
theorem m_isBeside {d : Nat} {R : gR} {μ : gM} {i j : Nat} (hi : i < 16) (hj : j < 16) : gc_S (d + 1) 172 [.int (nI i), .int (nI j)] μ R ↔ R (some (.int (q_b (q_adj i j = true)))) μ := by
  simp only [s172, u172_0, u172_1, u172_2, u172_3, u172_4, u172_5, u172_6, u172_7, u172_8, u172_9, u172_10, u172_11, u172_12, u172_13, u172_14, u172_15, u172_16, u172_17, u172_18, u172_19, u172_20, u172_21, u172_22, u172_23, u172_24, u172_27, u172_28, u172_31, u172_32, Option.toList, List.cons_append, List.nil_append, q_ski, q_skr, q_sku, if_true, if_false, q_z1, q_z2, true_and, show (¬ (4 : Int32) = 0) ↔ True from by decide, q_bsB i hi j hj]
  unfold q_b
  by_cases h : q_adj i j = true <;> simp [h]
theorem q_ct_s {p : Nat → Bool} {n : Nat} : nI (q_ct p (n + 1)) = nI (q_ct p n) + (if p n = true then 1 else 0) := by
  show nI (q_ct p n + (if p n = true then 1 else 0)) = _
  by_cases h : p n = true
  · rw [if_pos h, if_pos h, nI_1]
  · rw [if_neg h, if_neg h, Nat.add_zero, Int32.add_zero]
theorem m_wetCells {d : Nat} {R : gR} {μ : gM} : gc_S (d + 1) 185 [.ref 83] μ R ↔ R (some (.int (q_set (fun c => decide (0 < μ 84 (5 + c))) 16))) μ := by
  simp only [s185, u185_0, u185_1, u185_2, u185_3, u185_5, u185_7, u185_10, u185_11, u185_12, u185_15, u185_16, u185_17, u185_18, u185_19, u185_22, u185_23, u185_24, u185_25, u185_28, u185_29, u185_30, u185_31, u185_34, u185_37, u185_38, Option.toList, List.cons_append, List.nil_append, q_ski, q_skr, q_sku, if_true, if_false]
  refine q_loop (X := fun c => gc_W (gc_S d) cX12_wetCells 12 0 R 4 [.ref 83, .int (q_set (fun c => decide (0 < μ 84 (5 + c))) c), .int (nI c)] [] μ) 16 (fun c hc => (u185_4).trans ?_) ?_
  · have e : (5 : Int32) + nI c = nI (5 + c) := nI_add 5 c
    by_cases h : 0 < μ 84 (5 + c)
    · have h' : ¬ μ 84 (5 + c) ≤ 0 := Int32.not_le.mpr h
      simp only [u185_0, u185_1, u185_2, u185_3, u185_5, u185_7, u185_10, u185_11, u185_12, u185_15, u185_16, u185_17, u185_18, u185_19, u185_22, u185_23, u185_24, u185_25, u185_28, u185_29, u185_30, u185_31, u185_34, u185_37, u185_38, q_nle hc (by decide) (show (16 : Int32) = nI 16 from rfl), ly_kd, ly_al, ly_fv0, ly_fv1, ly_fv2, ly_fv3, ly_fv4, ly_fk, ly_ra, Option.toList, List.cons_append, List.nil_append, q_ski, q_skr, q_sku, if_true, if_false, e, vp_in_nI (show 5 + c < 247 by omega) (by decide), true_and, nI_clamp (show 5 + c < 2 ^ 31 by omega), nI_1, q_set, h, h', decide_true]
    · have h' : μ 84 (5 + c) ≤ 0 := Int32.not_lt.mp h
      simp only [u185_0, u185_1, u185_2, u185_3, u185_5, u185_7, u185_10, u185_11, u185_12, u185_15, u185_16, u185_17, u185_18, u185_19, u185_22, u185_23, u185_24, u185_25, u185_28, u185_29, u185_30, u185_31, u185_34, u185_37, u185_38, q_nle hc (by decide) (show (16 : Int32) = nI 16 from rfl), ly_kd, ly_al, ly_fv0, ly_fv1, ly_fv2, ly_fv3, ly_fv4, ly_fk, ly_ra, Option.toList, List.cons_append, List.nil_append, q_ski, q_skr, q_sku, if_true, if_false, e, vp_in_nI (show 5 + c < 247 by omega) (by decide), true_and, nI_clamp (show 5 + c < 2 ^ 31 by omega), nI_1, q_set, h, h', decide_false, Bool.false_eq_true]
  · simp only [u185_0, u185_1, u185_2, u185_3, u185_4, u185_5, u185_7, u185_10, u185_11, u185_12, u185_15, u185_16, u185_17, u185_18, u185_19, u185_22, u185_23, u185_24, u185_25, u185_28, u185_29, u185_30, u185_31, u185_34, u185_37, u185_38, show (16 : Int32) ≤ nI 16 by decide, if_true]
theorem m_tornCells {d : Nat} {R : gR} {μ : gM} : gc_S (d + 1) 186 [.ref 83] μ R ↔ R (some (.int (q_or (fun c => μ 84 (21 + c) <<< (nI c &&& 31)) 16))) μ := by
  simp only [s186, u186_0, u186_1, u186_2, u186_3, u186_5, u186_7, u186_10, u186_11, u186_12, u186_15, u186_17, u186_18, u186_19, u186_20, u186_21, u186_22, u186_23, u186_24, u186_27, u186_30, u186_31, Option.toList, List.cons_append, List.nil_append, q_ski, q_skr, q_sku, if_true, if_false]
  refine q_loop (X := fun c => gc_W (gc_S d) cX12_tornCells 12 0 R 4 [.ref 83, .int (q_or (fun c => μ 84 (21 + c) <<< (nI c &&& 31)) c), .int (nI c)] [] μ) 16 (fun c hc => (u186_4).trans ?_) ?_
  · have e : (21 : Int32) + nI c = nI (21 + c) := nI_add 21 c
    simp only [u186_0, u186_1, u186_2, u186_3, u186_5, u186_7, u186_10, u186_11, u186_12, u186_15, u186_17, u186_18, u186_19, u186_20, u186_21, u186_22, u186_23, u186_24, u186_27, u186_30, u186_31, q_nle hc (by decide) (show (16 : Int32) = nI 16 from rfl), ly_kd, ly_al, ly_fv0, ly_fv1, ly_fv2, ly_fv3, ly_fv4, ly_fk, ly_ra, Option.toList, List.cons_append, List.nil_append, q_ski, q_skr, q_sku, if_true, if_false, e, vp_in_nI (show 21 + c < 247 by omega) (by decide), true_and, nI_clamp (show 21 + c < 2 ^ 31 by omega), nI_1, q_or]
  · simp only [u186_0, u186_1, u186_2, u186_3, u186_4, u186_5, u186_7, u186_10, u186_11, u186_12, u186_15, u186_17, u186_18, u186_19, u186_20, u186_21, u186_22, u186_23, u186_24, u186_27, u186_30, u186_31, show (16 : Int32) ≤ nI 16 by decide, if_true]
theorem m_ones {d : Nat} {R : gR} {μ : gM} {x : Int32} : gc_S (d + 1) 150 [.int x] μ R ↔ R (some (.int (q_sum (fun k => (x >>> (nI k &&& 31)) &&& 1) 16))) μ := by
  simp only [s150, u150_0, u150_1, u150_2, u150_3, u150_5, u150_7, u150_10, u150_11, u150_12, u150_13, u150_14, u150_15, u150_16, u150_17, u150_18, u150_21, u150_24, u150_25, Option.toList, List.cons_append, List.nil_append, q_ski, q_skr, q_sku, if_true, if_false]
  refine q_loop (X := fun c => gc_W (gc_S d) cX12_ones 12 0 R 4 [.int x, .int (q_sum (fun k => (x >>> (nI k &&& 31)) &&& 1) c), .int (nI c)] [] μ) 16 (fun c hc => (u150_4).trans ?_) ?_
  · simp only [u150_0, u150_1, u150_2, u150_3, u150_5, u150_7, u150_10, u150_11, u150_12, u150_13, u150_14, u150_15, u150_16, u150_17, u150_18, u150_21, u150_24, u150_25, q_nle hc (by decide) (show (16 : Int32) = nI 16 from rfl), Option.toList, List.cons_append, List.nil_append, q_ski, q_skr, q_sku, if_true, if_false, nI_1, q_sum]
  · simp only [u150_0, u150_1, u150_2, u150_3, u150_4, u150_5, u150_7, u150_10, u150_11, u150_12, u150_13, u150_14, u150_15, u150_16, u150_17, u150_18, u150_21, u150_24, u150_25, show (16 : Int32) ≤ nI 16 by decide, if_true]
theorem m_bare {d : Nat} {R : gR} {μ : gM} {c : Nat} (hc : c < 16) : gc_S (d + 2) 173 [.ref 83, .int (nI c)] μ R ↔ R (some (.int (nI (q_bare (μ 84) c)))) μ := by
  simp only [s173, u173_0, u173_1, u173_2, u173_3, u173_5, u173_7, u173_10, u173_11, u173_12, u173_13, u173_16, u173_19, u173_20, u173_23, u173_25, u173_26, u173_27, u173_28, u173_29, u173_32, u173_33, u173_36, u173_37, u173_38, u173_39, u173_40, u173_43, u173_44, u173_47, u173_48, u173_49, u173_50, u173_53, u173_56, u173_57, Option.toList, List.cons_append, List.nil_append, q_ski, q_skr, q_sku, if_true, if_false]
  refine q_loop (X := fun b => gc_W (gc_S (d+1)) cX12_bare 12 0 R 4 [.ref 83, .int (nI c), .int (nI (q_ct (fun b => q_adj c b && (decide (μ 84 (21 + b) = 1) || decide (μ 84 (5 + b) = 0))) b)), .int (nI b)] [] μ) 16 (fun b hb => (u173_4).trans ?_) ?_
  · have e1 : (21 : Int32) + nI b = nI (21 + b) := nI_add 21 b
    have e2 : (5 : Int32) + nI b = nI (5 + b) := nI_add 5 b
    rw [q_ct_s]
    by_cases h1 : q_adj c b = true <;> by_cases h2 : μ 84 (21 + b) = 1 <;> by_cases h3 : μ 84 (5 + b) = 0 <;>
    simp only [u173_0, u173_1, u173_2, u173_3, u173_5, u173_7, u173_10, u173_11, u173_12, u173_13, u173_16, u173_19, u173_20, u173_23, u173_25, u173_26, u173_27, u173_28, u173_29, u173_32, u173_33, u173_36, u173_37, u173_38, u173_39, u173_40, u173_43, u173_44, u173_47, u173_48, u173_49, u173_50, u173_53, u173_56, u173_57, q_nle hb (by decide) (show (16 : Int32) = nI 16 from rfl), m_isBeside hc hb, q_b0, ly_kd, ly_al, ly_fv0, ly_fv1, ly_fv2, ly_fv3, ly_fv4, ly_fk, ly_ra, Option.toList, List.cons_append, List.nil_append, q_ski, q_skr, q_sku, if_true, if_false, e1, e2, vp_in_nI (show 21 + b < 247 by omega) (by decide), vp_in_nI (show 5 + b < 247 by omega) (by decide), true_and, nI_clamp (show 21 + b < 2 ^ 31 by omega), nI_clamp (show 5 + b < 2 ^ 31 by omega), nI_1, h1, h2, h3, not_true, not_false_eq_true, decide_true, decide_false, Bool.or_true, Bool.or_false, Bool.and_true, Bool.and_false, Bool.true_and, Bool.false_and, Bool.true_or, Bool.false_or, Bool.false_eq_true]
  · simp only [u173_0, u173_1, u173_2, u173_3, u173_4, u173_5, u173_7, u173_10, u173_11, u173_12, u173_13, u173_16, u173_19, u173_20, u173_23, u173_25, u173_26, u173_27, u173_28, u173_29, u173_32, u173_33, u173_36, u173_37, u173_38, u173_39, u173_40, u173_43, u173_44, u173_47, u173_48, u173_49, u173_50, u173_53, u173_56, u173_57, show (16 : Int32) ≤ nI 16 by decide, if_true, q_bare]
theorem m_weeps {d : Nat} {R : gR} {μ : gM} {i : Nat} (hi : i < 8) : gc_S (d + 2) 174 [.ref 83, .int (nI i)] μ R ↔ R (some (.int (q_wp (μ 84 (43 + 4 * i)) (μ 84 (44 + 4 * i)) (μ 84 (45 + 4 * i))))) μ := by
  have hw := q_wi hi
  simp only [s174, u174_0, u174_1, u174_2, u174_3, u174_6, u174_7, u174_8, u174_9, u174_10, u174_13, u174_14, u174_15, u174_16, u174_17, u174_18, u174_19, u174_21, u174_23, u174_24, u174_25, u174_26, u174_28, u174_31, u174_33, u174_34, u174_36, u174_39, u174_40, u174_43, u174_47, u174_48, u174_49, u174_50, u174_53, u174_92, u174_93, u174_95, u174_96, u174_97, u174_99, u174_100, u174_102, u174_103, u174_104, u174_106, u174_107, u174_109, u174_110, u174_111, u174_113, u174_114, u174_115, u174_116, u174_118, u174_119, u174_120, u174_121, u174_123, u174_126, u174_127, u174_129, m_of, m_held, q_wi hi, true_and, ly_kd, ly_al, ly_fv0, ly_fv1, ly_fv2, ly_fv3, ly_fv4, ly_fk, ly_ra, Option.toList, List.cons_append, List.nil_append, q_ski, q_skr, q_sku, if_true, if_false, show (¬ (4 : Int32) = 0) ↔ True from by decide, q_join]
  simp only [u174_0, u174_1, u174_2, u174_3, u174_6, u174_7, u174_8, u174_9, u174_10, u174_13, u174_14, u174_15, u174_16, u174_17, u174_18, u174_19, u174_21, u174_23, u174_24, u174_25, u174_26, u174_28, u174_31, u174_33, u174_34, u174_36, u174_39, u174_40, u174_43, u174_45, u174_47, u174_48, u174_49, u174_50, u174_53, u174_92, u174_93, u174_95, u174_96, u174_97, u174_99, u174_100, u174_102, u174_103, u174_104, u174_106, u174_107, u174_109, u174_110, u174_111, u174_113, u174_114, u174_115, u174_116, u174_118, u174_119, u174_120, u174_121, u174_123, u174_126, u174_127, u174_129, m_of, m_held, q_wi hi, true_and, ly_kd, ly_al, ly_fv0, ly_fv1, ly_fv2, ly_fv3, ly_fv4, ly_fk, ly_ra, Option.toList, List.cons_append, List.nil_append, q_ski, q_skr, q_sku, if_true, if_false]
  have hh : ∀ v : Int32, (if v < 0 then 0 else if 99 < v then 99 else v) = q_hd v := fun _ => rfl
  have h50 : ∀ s t : Int32, (if 50 ≤ s then t else 0) = (if s < 50 then 0 else t) := fun s t => by
    by_cases h : s < 50
    · rw [if_pos h, if_neg (Int32.not_le.mpr h)]
    · rw [if_neg h, if_pos (Int32.not_lt.mp h)]
  simp only [hh, h50]
  unfold q_wp
  generalize μ 84 (43 + 4 * i) = kd
  by_cases h1 : kd = 1
  · subst h1; simp
  by_cases h2 : kd = 2
  · subst h2; simp
  by_cases h3 : kd = 3
  · subst h3; simp
  by_cases h4 : kd = 4
  · subst h4; simp
  by_cases h5 : kd = 5
  · subst h5; simp
  by_cases h6 : kd = 6
  · subst h6; simp
  simp [h1, h2, h3, h4, h5, h6]
