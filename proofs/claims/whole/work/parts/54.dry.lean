theorem q_wp2 : ∀ w, w < 100 → (if (0 : Int32) < nI w / 4 + 1 - 3 then nI w / 4 + 1 - 3 else 0) = q_hd (nI w / 4 + 1 - 3) := by decide +kernel
theorem q_wp6 : ∀ w, w < 100 → ∀ m, m < 10 → (if (0 : Int32) < (if nI w < 50 then 0 else nI w / 4 + 1) - nI m then (if nI w < 50 then 0 else nI w / 4 + 1) - nI m else 0) = q_hd ((if nI w < 50 then 0 else nI w / 4 + 1) - nI m) := by decide +kernel
theorem t_weptBy {d : Nat} {R : gR} {μ : gM} {k i : Nat} {D : Nat → Int32} (K : q_K k 9) (hi : i < 8) (hok : q_ok D) (hR : q_R k D μ) (hL : q_L D μ) (h : ∀ μ', (∀ o, o ≠ 14 → o ≠ 18 → μ' o = μ o) → R (some (.int (q_wept D i))) μ') : gc_S (d + 4) 21 [.ref k, .int (nI i)] μ R := by
  have K' := K
  unfold q_K at K
  obtain ⟨h1, h2, h3, h4, h5, h6, h7, h8, h9⟩ := hR
  obtain ⟨-, -, -, -, -, hm, hwf⟩ := hok
  obtain ⟨⟨w, hw, hw6⟩, ⟨m, hmm, hm9⟩, ⟨s, hs, hs9⟩, -⟩ := hm i hi
  have vi : vp_in (nI i) 8 := vp_in_nI hi (by decide)
  have ci : (nI i).toNatClampNeg = i := nI_clamp (by omega)
  have e4 : μ (k + 4) i = nI w := by rw [h3 i hi, hw]
  have e5 : μ (k + 5) i = nI m := by rw [h4 i hi, hmm]
  have e6 : μ (k + 6) i = nI s := by rw [h5 i hi, hs]
  simp only [s21, u21_0, u21_1, u21_4, u21_5, u21_6, u21_7, u21_8, u21_9, u21_10, u21_11, u21_14, u21_15, u21_18, u21_19, u21_20, u21_21_1, u21_21_3, u21_21_4, u21_21_5, u21_21_6, u21_21_8, u21_21_10, u21_24, u21_25, u21_26, u21_29, u21_31, u21_32, u21_35, ly_kd, ly_al, ly_fv0, ly_fv1, ly_fv2, ly_fv3, ly_fv4, ly_fk, ly_ra, Option.toList, List.cons_append, List.nil_append, q_ski, q_skr, q_sku, if_true, if_false, K, vi, ci, true_and, e5, e6, t_kindOf K' hi e4 hw6]
  have fin : ∀ g, g = q_wp (D (43 + 4 * i)) (D (44 + 4 * i)) (D (45 + 4 * i)) → gc_W (gc_S (d+3)) cX0_weptBy 0 0 R 24 [.ref k, .int (nI i), .int (nI s)] [.int g, .int 0, .ref k] μ := by
    intro g hg
    simp only [u21_0, u21_1, u21_4, u21_5, u21_6, u21_7, u21_8, u21_9, u21_10, u21_11, u21_14, u21_15, u21_18, u21_19, u21_20, u21_21_1, u21_21_3, u21_21_4, u21_21_5, u21_21_6, u21_21_8, u21_21_10, u21_24, u21_25, u21_26, u21_29, u21_31, u21_32, u21_35, ly_kd, ly_al, ly_fv0, ly_fv1, ly_fv2, ly_fv3, ly_fv4, ly_fk, ly_ra, Option.toList, List.cons_append, List.nil_append, q_ski, q_skr, q_sku, if_true, if_false, K, h8, show ¬ (8 : Int32) = 0 by decide, not_false_eq_true, true_and]
    refine t_given (u := 0) K' (by omega) rfl hwf hL (fun μ' hμ => ?_)
    simp only [u21_0, u21_1, u21_4, u21_5, u21_6, u21_7, u21_8, u21_9, u21_10, u21_11, u21_14, u21_15, u21_18, u21_19, u21_20, u21_21_1, u21_21_3, u21_21_4, u21_21_5, u21_21_6, u21_21_8, u21_21_10, u21_24, u21_25, u21_26, u21_29, u21_31, u21_32, u21_35, ly_kd, ly_al, ly_fv0, ly_fv1, ly_fv2, ly_fv3, ly_fv4, ly_fk, ly_ra, Option.toList, List.cons_append, List.nil_append, q_ski, q_skr, q_sku, if_true, if_false]
    have := h μ' hμ
    rw [show q_wept D i = q_tg D 0 g (nI s) (D 1 - D 1 / 8 * 8) by unfold q_wept q_y8; rw [hg, hs]] at this
    exact this
  rw [hw, hmm, hs] at fin
  have q6 := q_wp6 s (by omega) m (by omega)
  have q2 := q_wp2 s (by omega)
  have r : w = 0 ∨ w = 1 ∨ w = 2 ∨ w = 3 ∨ w = 4 ∨ w = 5 ∨ w = 6 := by omega
  rcases r with r | r | r | r | r | r | r
  all_goals subst r
  · refine (u21_21_5 rfl).mpr (t_w5.mpr ?_); exact fin _ rfl
  · refine (u21_21_10 rfl).mpr ((t_w10 (kd := 10) rfl rfl).mpr ?_); exact fin _ rfl
  · refine (u21_21_8 rfl).mpr ((t_w8 (kd := 8) rfl rfl).mpr ?_); exact fin _ q2
  · refine (u21_21_3 rfl).mpr ((t_w3 (kd := 3) rfl rfl).mpr ?_); exact fin _ rfl
  · refine (u21_21_6 rfl).mpr ((t_w6 (kd := 6) rfl rfl).mpr ?_); exact fin _ rfl
  · refine (u21_21_4 rfl).mpr ((t_w4 (kd := 4) rfl rfl).mpr ?_); exact fin _ (by rw [q2]; rfl)
  · refine (u21_21_1 rfl).mpr ((t_w1 (kd := 1) rfl rfl).mpr ?_); exact fin _ q6
theorem q_hd0 : ∀ w, w < 100 → q_hd (nI 0 - nI w) = nI 0 := by decide +kernel
theorem q_dry_o {D : Nat → Int32} {j : Nat} (h : j < 5 ∨ 21 ≤ j) : q_dry D j = D j := by unfold q_dry; rw [if_neg (by omega)]
theorem q_dry_i {D : Nat → Int32} {c : Nat} (h : c < 16) : q_dry D (5 + c) = q_hd (D (5 + c) - q_tg D 1 (D (5 + c)) (nI (q_bare D c)) (q_y8 D)) := by
  unfold q_dry; rw [if_pos (by omega), show 5 + c - 5 = c by omega]
theorem q_tod {D : Nat → Int32} (hok : q_ok D) {c : Nat} {W : Nat → Int32} (hW : ∀ j, j < 16 → W j = D (5 + j)) : q_set (fun b => q_adj c b) 16 &&& (q_set (fun c => decide (D (21 + c) = 1)) 16 ||| (65535 &&& (q_set (fun c => decide (0 < W c)) 16 ^^^ -1))) = q_set (fun b => q_adj c b && (decide (D (21 + b) = 1) || decide (D (5 + b) = 0))) 16 := by
  obtain ⟨-, -, hwet, -⟩ := hok
  refine q_set_eq (by omega) (fun i hi => ?_)
  rw [b_and, b_or, b_and, b_65535, b_not hi, q_set_bt 16 (by omega) i hi, q_set_bt 16 (by omega) i hi, q_set_bt 16 (by omega) i hi]
  by_cases e : i < 16
  · obtain ⟨w, hw, hw9⟩ := hwet i e
    rw [hW i e, hw]
    have : decide (0 < nI w) = !decide (nI w = 0) := by
      rcases Nat.eq_zero_or_pos w with rfl | hp
      · rfl
      · have a1 : nI 0 < nI w := nI_lt hp (by omega)
        have a2 : ¬ nI w = 0 := nI_ne0 hp (by omega)
        rw [decide_eq_true (show 0 < nI w from a1), decide_eq_false a2]; rfl
    rw [this]
    simp [e]
  · simp [e]
set_option maxHeartbeats 1000000 in
theorem t_dryOut {d : Nat} {R : gR} {μ : gM} {k : Nat} {D : Nat → Int32} (K : q_K k 9) (hk : 18 < k) (hok : q_ok D) (hR : q_R k D μ) (hL : q_L D μ) (h : ∀ μ', q_g k μ μ' → μ' k = μ k → q_R k (q_dry D) μ' → R none μ') : gc_S (d + 4) 31 [.ref k] μ R := by
  have K' := K
  have hR' := hR
  unfold q_K at K
  obtain ⟨h1, h2, h3, h4, h5, h6, h7, h8, h9⟩ := hR
  have hT := fun c => q_tod (c := c) (W := μ (k + 1)) hok h1
  have hok' := hok
  obtain ⟨-, -, hwet, -, -, -, hwf⟩ := hok
  simp only [s31, u31_0, u31_1, u31_4, u31_5, u31_6, u31_8, u31_10, u31_13, u31_14, u31_17, u31_18, u31_19, u31_22, u31_23, u31_26, u31_27, u31_28, u31_31, u31_32, u31_33, u31_36, u31_37, u31_38, u31_41, u31_42, u31_43, u31_44, u31_45, u31_46, u31_49, u31_50, u31_51, u31_52, u31_53, u31_56, u31_58, u31_59, u31_62, u31_63, u31_66, u31_67, u31_70, u31_73, ly_kd, ly_al, ly_fv0, ly_fv1, ly_fv2, ly_fv3, ly_fv4, ly_fk, ly_ra, Option.toList, List.cons_append, List.nil_append, q_ski, q_skr, q_sku, if_true, if_false, K, t_tornOrDry K', h7]
  generalize (q_set (fun c => decide (D (21 + c) = 1)) 16 ||| (65535 &&& (q_set (fun c => decide (0 < μ (k + 1) c)) 16 ^^^ -1))) = T at hT ⊢
  have main : ∀ m c, c + m = 16 → ∀ μ0 : gM, (∀ o, o ≠ k + 1 → o ≠ 14 → o ≠ 18 → μ0 o = μ o) → (∀ j, j < 16 → μ0 (k + 1) j = if j < c then q_dry D (5 + j) else D (5 + j)) → ∀ l3, gc_sk l3 = true → gc_W (gc_S (d+3)) cX0_dryOut 0 2 R 7 [.ref k, .int T, .int (nI c), l3] [] μ0 := by
    intro m
    induction m with
    | zero =>
      intro c hc μ0 e0 e1 l3 hl3
      obtain rfl : c = 16 := by omega
      refine (u31_7).mpr ?_
      simp only [u31_0, u31_1, u31_4, u31_5, u31_6, u31_8, u31_10, u31_13, u31_14, u31_17, u31_18, u31_19, u31_22, u31_23, u31_26, u31_27, u31_28, u31_31, u31_32, u31_33, u31_36, u31_37, u31_38, u31_41, u31_42, u31_43, u31_44, u31_45, u31_46, u31_49, u31_50, u31_51, u31_52, u31_53, u31_56, u31_58, u31_59, u31_62, u31_63, u31_66, u31_67, u31_70, u31_73, show (16 : Int32) ≤ nI 16 by decide, if_true]
      refine h μ0 (fun o a b c => e0 o (by omega) b c) (e0 k (by omega) (by omega) (by omega)) ?_
      refine ⟨fun j hj => by rw [e1 j hj, if_pos hj], fun j hj => ?_, fun j hj => ?_, fun j hj => ?_, fun j hj => ?_, fun j hj => ?_, ?_, ?_, ?_⟩
      · rw [e0 _ (by omega) (by omega) (by omega), q_dry_o (by omega)]; exact h2 j hj
      · rw [e0 _ (by omega) (by omega) (by omega), q_dry_o (by omega)]; exact h3 j hj
      · rw [e0 _ (by omega) (by omega) (by omega), q_dry_o (by omega)]; exact h4 j hj
      · rw [e0 _ (by omega) (by omega) (by omega), q_dry_o (by omega)]; exact h5 j hj
      · rw [e0 _ (by omega) (by omega) (by omega), q_dry_o (by omega)]; exact h6 j hj
      · rw [e0 _ (by omega) (by omega) (by omega), h7]; exact q_set_cong (fun j hj => by rw [q_dry_o (by omega)])
      · rw [e0 _ (by omega) (by omega) (by omega), q_dry_o (by omega)]; exact h8
      · rw [e0 _ (by omega) (by omega) (by omega), q_dry_o (by omega)]; exact h9
    | succ m ih =>
      intro c hc μ0 e0 e1 l3 hl3
      have c16 : c < 16 := by omega
      have vc : vp_in (nI c) 16 := vp_in_nI c16 (by decide)
      have cc : (nI c).toNatClampNeg = c := nI_clamp (by omega)
      have ew : μ0 (k + 1) c = D (5 + c) := by rw [e1 c c16, if_neg (by omega)]
      have ek : ∀ j, μ0 k j = μ k j := fun j => by rw [e0 k (by omega) (by omega) (by omega)]
      obtain ⟨w, hw, hw9⟩ := hwet c c16
      have hqd := q_dry_i (D := D) c16
      refine (u31_7).mpr ?_
      by_cases h0 : w = 0
      · subst h0
        simp only [u31_0, u31_1, u31_4, u31_5, u31_6, u31_8, u31_10, u31_13, u31_14, u31_17, u31_18, u31_19, u31_22, u31_23, u31_26, u31_27, u31_28, u31_31, u31_32, u31_33, u31_36, u31_37, u31_38, u31_41, u31_42, u31_43, u31_44, u31_45, u31_46, u31_49, u31_50, u31_51, u31_52, u31_53, u31_56, u31_58, u31_59, u31_62, u31_63, u31_66, u31_67, u31_70, u31_73, q_nle c16 (by decide) (show (16 : Int32) = nI 16 from rfl), ly_kd, ly_al, ly_fv0, ly_fv1, ly_fv2, ly_fv3, ly_fv4, ly_fk, ly_ra, Option.toList, List.cons_append, List.nil_append, q_ski, q_skr, q_sku, if_true, if_false, K, vc, cc, true_and, ew, hw, show nI 0 ≤ 0 by decide, nI_1]
        refine ih (c + 1) (by omega) μ0 e0 (fun j hj => ?_) l3 hl3
        rw [e1 j hj]
        by_cases e : j = c
        · subst e
          rw [if_neg (by omega), if_pos (by omega), hqd, hw]
          obtain ⟨z, hz, hz9⟩ := q_hd_r (if 0 < D (75 + 1) then (q_ev (q_n3 (nI 0) (nI (q_bare D j)) (q_y8 D)) (q_code D 1) (fun _ => 0) (D (75 + 1)).toNatClampNeg).2 0 else if (1 : Nat) = 0 then nI 0 else 3)
          unfold q_tg
          rw [hz, q_hd0 z (by omega)]
        · by_cases e2 : j < c
          · rw [if_pos e2, if_pos (by omega)]
          · rw [if_neg e2, if_neg (by omega)]
      · have hnp : ¬ nI w ≤ 0 := nI_nle (by omega) (by omega)
        simp only [u31_0, u31_1, u31_4, u31_5, u31_6, u31_8, u31_10, u31_13, u31_14, u31_17, u31_18, u31_19, u31_22, u31_23, u31_26, u31_27, u31_28, u31_31, u31_32, u31_33, u31_36, u31_37, u31_38, u31_41, u31_42, u31_43, u31_44, u31_45, u31_46, u31_49, u31_50, u31_51, u31_52, u31_53, u31_56, u31_58, u31_59, u31_62, u31_63, u31_66, u31_67, u31_70, u31_73, q_nle c16 (by decide) (show (16 : Int32) = nI 16 from rfl), ly_kd, ly_al, ly_fv0, ly_fv1, ly_fv2, ly_fv3, ly_fv4, ly_fk, ly_ra, Option.toList, List.cons_append, List.nil_append, q_ski, q_skr, q_sku, if_true, if_false, K, vc, cc, true_and, ew, hw, hnp, t_beside c16, hT, t_bitCount, hl3, ek, h8, show ¬ (8 : Int32) = 0 by decide, not_false_eq_true]
        refine t_given (u := 1) K' (by omega) rfl hwf (q_L_mem hL (fun o ho => e0 o (by omega) (by omega) (by omega))) (fun μ1 hμ => ?_)
        simp only [u31_0, u31_1, u31_4, u31_5, u31_6, u31_8, u31_10, u31_13, u31_14, u31_17, u31_18, u31_19, u31_22, u31_23, u31_26, u31_27, u31_28, u31_31, u31_32, u31_33, u31_36, u31_37, u31_38, u31_41, u31_42, u31_43, u31_44, u31_45, u31_46, u31_49, u31_50, u31_51, u31_52, u31_53, u31_56, u31_58, u31_59, u31_62, u31_63, u31_66, u31_67, u31_70, u31_73, ly_kd, ly_al, ly_fv0, ly_fv1, ly_fv2, ly_fv3, ly_fv4, ly_fk, ly_ra, Option.toList, List.cons_append, List.nil_append, q_ski, q_skr, q_sku, if_true, if_false, t_held, K, vc, cc, true_and, nI_1]
        refine ih (c + 1) (by omega) _ (fun o a b e => by rw [gc_up_ne a, hμ o b e, e0 o a b e]) (fun j hj => ?_) _ rfl
        by_cases e : j = c
        · subst e
          rw [q_up_same, if_pos (by omega), hqd, hw]
          rfl
        · rw [q_up_j e, hμ _ (by omega) (by omega), e1 j hj]
          by_cases e2 : j < c
          · rw [if_pos e2, if_pos (by omega)]
          · rw [if_neg e2, if_neg (by omega)]
  exact main 16 0 rfl μ (fun _ _ _ _ => rfl) (fun j hj => by rw [if_neg (by omega)]; exact h1 j hj) _ rfl
