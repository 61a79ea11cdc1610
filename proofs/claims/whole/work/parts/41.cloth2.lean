theorem q_ob_ob {μ : gM} {o : Nat} {f g : Nat → Int32} : gc_ob (gc_ob μ o f) o g = gc_ob μ o g := by
  funext o'
  unfold gc_ob
  by_cases h : o' = o
  · rw [if_pos h, if_pos h]
  · rw [if_neg h, if_neg h, if_neg h]
theorem t_tornOrDry {d : Nat} {R : gR} {μ : gM} {k l : Nat} (K : q_K k l) : gc_S (d + 2) 6 [.ref k] μ R ↔ R (some (.int (μ k 11 ||| (65535 &&& (q_set (fun c => decide (0 < μ (k + 1) c)) 16 ^^^ -1))))) μ := by
  have K' := K
  unfold q_K at K
  simp only [s6, u6_0, u6_1, u6_4, u6_6, u6_7, u6_10, u6_11, u6_12, u6_13, u6_14, Option.toList, List.cons_append, List.nil_append, q_ski, q_skr, q_sku, if_true, if_false, K, t_wetCells K']
theorem t_thoseAt {d : Nat} {R : gR} {μ : gM} {k l n : Nat} {e : Int32} (K : q_K k l) (hn : μ k 13 = nI n) (hn8 : n ≤ 8) : gc_S (d + 1) 7 [.ref k, .int e] μ R ↔ R (some (.int (q_set (fun i => decide (μ (k + 7) i = e)) n))) μ := by
  unfold q_K at K
  simp only [s7, u7_0, u7_1, u7_2, u7_3, u7_5, u7_6, u7_9, u7_12, u7_13, u7_16, u7_17, u7_18, u7_19, u7_22, u7_23, u7_24, u7_25, u7_26, u7_27, u7_28, u7_31, u7_34, u7_35, Option.toList, List.cons_append, List.nil_append, q_ski, q_skr, q_sku, if_true, if_false]
  refine q_loop (X := fun c => gc_W (gc_S d) cX0_thoseAt 0 0 R 4 [.ref k, .int e, .int (q_set (fun i => decide (μ (k + 7) i = e)) c), .int (nI c)] [] μ) n (fun c hc => (u7_4).trans ?_) ?_
  · have v1 : vp_in (nI c) 8 := vp_in_nI (show c < 8 by omega) (by decide)
    have c1 : (nI c).toNatClampNeg = c := nI_clamp (show c < 2 ^ 31 by omega)
    have l1 : ¬ nI n ≤ nI c := q_nle hc (show n < 2 ^ 31 by omega) rfl
    have s1 : q_set (fun i => decide (μ (k + 7) i = e)) (c + 1) = q_set (fun i => decide (μ (k + 7) i = e)) c ||| (if decide (μ (k + 7) c = e) = true then (1 : Int32) <<< (nI c &&& 31) else 0) := rfl
    by_cases h : μ (k + 7) c = e
    · have s2 : (if decide (μ (k + 7) c = e) = true then (1 : Int32) <<< (nI c &&& 31) else 0) = 1 <<< (nI c &&& 31) := by rw [if_pos (decide_eq_true h)]
      rw [s1, s2]
      simp only [u7_0, u7_1, u7_2, u7_3, u7_5, u7_6, u7_9, u7_12, u7_13, u7_16, u7_17, u7_18, u7_19, u7_22, u7_23, u7_24, u7_25, u7_26, u7_27, u7_28, u7_31, u7_34, u7_35, hn, l1, K, v1, true_and, c1, nI_1, eq_true h, Option.toList, List.cons_append, List.nil_append, q_ski, q_skr, q_sku, if_true, if_false]
    · have s2 : (if decide (μ (k + 7) c = e) = true then (1 : Int32) <<< (nI c &&& 31) else 0) = 0 := by rw [if_neg (fun q => h (of_decide_eq_true q))]
      rw [s1, s2, Int32.or_zero]
      simp only [u7_0, u7_1, u7_2, u7_3, u7_5, u7_6, u7_9, u7_12, u7_13, u7_16, u7_17, u7_18, u7_19, u7_22, u7_23, u7_24, u7_25, u7_26, u7_27, u7_28, u7_31, u7_34, u7_35, hn, l1, K, v1, true_and, c1, nI_1, eq_false h, Option.toList, List.cons_append, List.nil_append, q_ski, q_skr, q_sku, if_true, if_false]
  · refine (u7_4).trans ?_
    simp only [u7_0, u7_1, u7_2, u7_3, u7_5, u7_6, u7_9, u7_12, u7_13, u7_16, u7_17, u7_18, u7_19, u7_22, u7_23, u7_24, u7_25, u7_26, u7_27, u7_28, u7_31, u7_34, u7_35, hn, K, show nI n ≤ nI n from Int32.le_refl _, if_true]
/-- a pair of cells beside each other: what it does to the wet row -/
def q_sp (torn : Int32) (was : Nat → Int32) (a b : Nat) (w : Nat → Int32) : Nat → Int32 :=
  if (torn >>> (nI a &&& 31) ||| torn >>> (nI b &&& 31)) &&& 1 = 1 then w
  else if 10 ≤ was a - was b then upd (upd w a (w a - 1)) b (upd w a (w a - 1) b + 1)
  else if was a - was b ≤ -10 then upd (upd w a (w a + 1)) b (upd w a (w a + 1) b - 1)
  else w
theorem t_seepBetween {d : Nat} {R : gR} {μ : gM} {k l a b : Nat} (K : q_K k l) (ha : a < 16) (hb : b < 16) : gc_S (d + 1) 26 [.ref k, .int (nI a), .int (nI b)] μ R ↔ R none (gc_ob μ (k + 1) (q_sp (μ k 11) (μ (k + 2)) a b (μ (k + 1)))) := by
  unfold q_K at K
  simp only [s26, u26_0, u26_1, u26_4, u26_5, u26_6, u26_7, u26_10, u26_11, u26_12, u26_13, u26_14, u26_15, u26_16, u26_19, u26_20, u26_21, u26_24, u26_25, u26_26, u26_27, u26_30, u26_31, u26_32, u26_33, u26_34, u26_35, u26_37, u26_40, u26_41, u26_44, u26_45, u26_46, u26_47, u26_48, u26_49, u26_50, u26_51, u26_54, u26_55, u26_56, u26_57, u26_58, u26_59, u26_60, u26_63, u26_64, u26_66, u26_69, u26_70, u26_73, u26_74, u26_75, u26_76, u26_77, u26_78, u26_79, u26_80, u26_83, u26_84, u26_85, u26_86, u26_87, u26_88, u26_89, Option.toList, List.cons_append, List.nil_append, q_ski, q_skr, q_sku, if_true, if_false, K, vp_in_nI ha (by decide), vp_in_nI hb (by decide), nI_clamp (show a < 2 ^ 31 by omega), nI_clamp (show b < 2 ^ 31 by omega), true_and]
  unfold q_sp
  by_cases h1 : (μ k 11 >>> (nI a &&& 31) ||| μ k 11 >>> (nI b &&& 31)) &&& 1 = 1
  · rw [if_pos h1]
    simp only [h1, if_true]
    rw [q_ob_s]
  · rw [if_neg h1]
    simp only [h1, if_false]
    by_cases h2 : 10 ≤ μ (k + 2) a - μ (k + 2) b
    · rw [if_pos h2]
      simp only [Int32.not_lt.mpr h2, if_false, q_up_ob, q_ob_e, q_ob_ob]
    · rw [if_neg h2]
      by_cases h3 : μ (k + 2) a - μ (k + 2) b ≤ -10
      · rw [if_pos h3]
        simp only [Int32.not_le.mp h2, Int32.not_lt.mpr h3, if_true, if_false, q_up_ob, q_ob_e, q_ob_ob]
      · rw [if_neg h3]
        simp only [Int32.not_le.mp h2, Int32.not_le.mp h3, if_true]
        rw [q_ob_s]
