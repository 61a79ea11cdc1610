theorem q_ok_247 {D D' : Nat → Int32} (hok : q_ok D) (o : ∀ j, j < 247 → D' j = D j) : q_ok D' := by
  obtain ⟨⟨n, hn, hn8⟩, ⟨y, hy, hy2⟩, hwet, htorn, hlist, hm, hwf⟩ := hok
  refine ⟨⟨n, by rw [o _ (by omega)]; exact hn, hn8⟩, ⟨y, by rw [o _ (by omega)]; exact hy, hy2⟩, fun c hc => by rw [o _ (by omega)]; exact hwet c hc, fun c hc => by rw [o _ (by omega)]; exact htorn c hc, fun p hp => by rw [o _ (by omega)]; exact hlist p hp, fun i hi => ?_, fun u hu => ?_⟩
  · rw [o _ (by omega), o _ (by omega), o _ (by omega), o _ (by omega)]; exact hm i hi
  · obtain ⟨k, hk, hk2⟩ := hwf u hu
    have h50 := hk2.1
    refine ⟨k, by rw [o _ (by omega)]; exact hk, ?_⟩
    have e : ∀ i, i < 50 → q_code D' u i = q_code D u i := fun i hi => o _ (by omega)
    have dp : ∀ n, n ≤ 50 → q_dp (q_code D' u) n = q_dp (q_code D u) n := by
      intro n
      induction n with
      | zero => intro _; rfl
      | succ n ih =>
        intro h
        unfold q_dp
        rw [e n (by omega), ih (by omega)]
    refine ⟨h50, fun n hn => ?_, fun hp => ?_⟩
    · rw [e n (by omega), dp n (by omega)]; exact hk2.2.1 n hn
    · rw [dp k h50]; exact hk2.2.2 hp
theorem q_CL_247 {k l : Nat} {D D' : Nat → Int32} {μ : gM} (h : q_CL k l D μ) (o : ∀ j, j < 247 → D' j = D j) : q_CL k l D' μ := by
  obtain ⟨ok, ⟨y, hy, hy2⟩, hR, hz, hL, ⟨tt, t1, t2, t3, t4⟩, ⟨ww, w1, w2, w3, w4⟩⟩ := h
  refine ⟨q_ok_247 ok o, ⟨y, by rw [o _ (by omega)]; exact hy, hy2⟩, q_R_D hR (fun j a _ _ _ => o j (by omega)), by rw [o _ (by omega)]; exact hz, fun u hu => ?_, ⟨tt, by rw [o _ (by omega)]; exact t1, t2, t3, fun j hj => ?_⟩, ⟨ww, by rw [o _ (by omega)]; exact w1, w2, w3, fun j hj => ?_⟩⟩
  · obtain ⟨a, b⟩ := hL u hu
    refine ⟨by rw [o _ (by omega)]; exact a, fun n n5 hn j hj => ?_⟩
    rw [o _ (by omega)] at hn
    rw [b n n5 hn j hj]
    congr 1
    exact (o _ (by omega)).symm
  · rw [o _ (by omega)]; exact t4 j hj
  · rw [o _ (by omega)]; exact w4 j hj
theorem m_image {d : Nat} {R : gR} {μ : gM} : gc_S (d + 1) 245 [.ref 83] μ R ↔ R (some (.int (μ 83 3 + 1))) (gc_up (gc_cp μ 84 85 0 0 247) 83 3 (μ 83 3 + 1)) := by
  simp only [s245, u245_0, u245_1, u245_3, u245_6, u245_9, u245_10, u245_13, u245_14, u245_15, u245_18, u245_19, u245_20, u245_21, u245_24, u245_27, u245_28, u245_29, u245_32, u245_33, u245_34, u245_37, u245_38, u245_41, Option.toList, List.cons_append, List.nil_append, q_ski, q_skr, q_sku, if_true, if_false]
  refine q_loop0 (X := fun c => gc_W (gc_S d) cX12_image 12 0 R 2 [.ref 83, .int (nI c)] [] (gc_cp μ 84 85 0 0 c)) 247 (by rw [q_cp_0]; exact Iff.rfl) (fun c hc => (u245_2).trans ?_) ?_
  · have e := q_cp_s (μ := μ) (o1 := 84) (o2 := 85) (a := 0) (b := 0) (n := c)
    rw [Nat.zero_add] at e
    simp only [u245_0, u245_1, u245_3, u245_6, u245_9, u245_10, u245_13, u245_14, u245_15, u245_18, u245_19, u245_20, u245_21, u245_24, u245_27, u245_28, u245_29, u245_32, u245_33, u245_34, u245_37, u245_38, u245_41, q_nle hc (by decide) (show (247 : Int32) = nI 247 from rfl), ly_kd, ly_al, ly_fv0, ly_fv1, ly_fv2, ly_fv3, ly_fv4, ly_fk, ly_ra, vp_in_nI hc (by decide), true_and, nI_clamp (show c < 2 ^ 31 by omega), nI_1, if_false, q_cp_o (show (84 : Nat) ≠ 85 by decide), e]
  · refine (u245_2).trans ?_
    have e3 : gc_cp μ 84 85 0 0 247 83 3 = μ 83 3 := by rw [gc_cp_ne (by omega)]
    simp only [u245_0, u245_1, u245_3, u245_6, u245_9, u245_10, u245_13, u245_14, u245_15, u245_18, u245_19, u245_20, u245_21, u245_24, u245_27, u245_28, u245_29, u245_32, u245_33, u245_34, u245_37, u245_38, u245_41, show (247 : Int32) ≤ nI 247 by decide, if_true, ly_kd, ly_al, ly_fv0, ly_fv1, ly_fv2, ly_fv3, ly_fv4, ly_fk, ly_ra, Option.toList, List.cons_append, List.nil_append, q_ski, q_skr, q_sku, if_true, if_false, e3, q_up_same]
theorem p_image : q_P 135 245 [.ref 0] [.ref 83] := by
  intro μ R I hk
  obtain ⟨i1, ⟨im1, im2⟩, i3, i4, i5⟩ := I
  simp only [s135, u135_0, u135_1, u135_4, u135_5, u135_8, u135_11, u135_12, u135_13, u135_16, u135_17, u135_18, u135_21, u135_22, u135_25, ly_kd, ly_al, ly_fv0, ly_fv1, ly_fv2, ly_fv3, ly_fv4, ly_fk, ly_ra, Option.toList, List.cons_append, List.nil_append, q_ski, q_skr, q_sku, if_true, if_false]
  refine t_takesAll55 (D := μ 84) i1 (fun μ1 m1 c1 => ?_)
  have e09 : μ1 0 9 = μ 83 3 := by rw [m1 0 (by omega), im1]
  simp only [u135_0, u135_1, u135_4, u135_5, u135_8, u135_11, u135_12, u135_13, u135_16, u135_17, u135_18, u135_21, u135_22, u135_25, ly_kd, ly_al, ly_fv0, ly_fv1, ly_fv2, ly_fv3, ly_fv4, ly_fk, ly_ra, Option.toList, List.cons_append, List.nil_append, q_ski, q_skr, q_sku, if_true, if_false, q_up_same, e09]
  have hi : q_hi μ (gc_up μ1 0 9 (μ 83 3 + 1)) := fun o ho => by rw [gc_up_ne (by omega)]; exact m1 o (by omega)
  refine hk _ _ hi (fun R2 h2 => ?_)
  rw [m_image]
  have e833 : gc_up μ1 0 9 (μ 83 3 + 1) 83 3 = μ 83 3 := by rw [gc_up_ne (by omega), m1 83 (by omega)]
  rw [e833]
  have e84 : gc_up μ1 0 9 (μ 83 3 + 1) 84 = μ 84 := by rw [gc_up_ne (by omega), m1 84 (by omega)]
  have mm : ∀ o, o ≠ 0 → o ≠ 83 → o ≠ 85 → gc_up (gc_cp (gc_up μ1 0 9 (μ 83 3 + 1)) 84 85 0 0 247) 83 3 (μ 83 3 + 1) o = μ1 o := fun o a b c => by rw [gc_up_ne b, gc_cp_ne c, gc_up_ne a]
  have m0 : gc_up (gc_cp (gc_up μ1 0 9 (μ 83 3 + 1)) 84 85 0 0 247) 83 3 (μ 83 3 + 1) 0 9 = μ 83 3 + 1 := by rw [gc_up_ne (by omega), gc_cp_ne (by omega), q_up_same]
  have m83 : ∀ j, j ≠ 3 → gc_up (gc_cp (gc_up μ1 0 9 (μ 83 3 + 1)) 84 85 0 0 247) 83 3 (μ 83 3 + 1) 83 j = μ 83 j := fun j hj => by rw [q_up_j hj, gc_cp_ne (by omega), gc_up_ne (by omega), m1 83 (by omega)]
  have m833 : gc_up (gc_cp (gc_up μ1 0 9 (μ 83 3 + 1)) 84 85 0 0 247) 83 3 (μ 83 3 + 1) 83 3 = μ 83 3 + 1 := q_up_same
  have m85 : ∀ j, j < 247 → gc_up (gc_cp (gc_up μ1 0 9 (μ 83 3 + 1)) 84 85 0 0 247) 83 3 (μ 83 3 + 1) 85 j = μ 84 j := fun j hj => by
    rw [gc_up_ne (by omega), gc_cp_eq, pk_cpy_in (by omega) (by omega), e84, show 0 + (j - 0) = j by omega]
  generalize gc_up (gc_cp (gc_up μ1 0 9 (μ 83 3 + 1)) 84 85 0 0 247) 83 3 (μ 83 3 + 1) = μ2 at mm m0 m83 m833 m85 ⊢
  have n : ∀ o, o ≠ 0 → o ≠ 83 → o ≠ 85 → (o < 55 ∨ 66 < o) → o ≠ 20 → o ≠ 21 → o ≠ 24 → o ≠ 25 → μ2 o = μ o := fun o a b c d e f g h => by rw [mm o a b c]; exact m1 o (by omega)
  refine h2 μ2 ⟨?_, ⟨m0.trans m833.symm, fun _ => q_CL_247 (q_CL_mem c1 (fun o ho => mm o (by omega) (by omega) (by omega))) m85⟩, q_sh_mem i3 (fun o ho => n o (by omega) (by omega) (by omega) (by omega) (by omega) (by omega) (by omega) (by omega)), q_tr_mem i4 (n _ (by omega) (by omega) (by omega) (by omega) (by omega) (by omega) (by omega) (by omega)) (m83 22 (by omega)) (n _ (by omega) (by omega) (by omega) (by omega) (by omega) (by omega) (by omega) (by omega)) (n _ (by omega) (by omega) (by omega) (by omega) (by omega) (by omega) (by omega) (by omega)), q_rf_mem i5 (n _ (by omega) (by omega) (by omega) (by omega) (by omega) (by omega) (by omega) (by omega)) (n _ (by omega) (by omega) (by omega) (by omega) (by omega) (by omega) (by omega) (by omega))⟩ (fun o ho => ?_)
  · rw [n 84 (by omega) (by omega) (by omega) (by omega) (by omega) (by omega) (by omega) (by omega)]
    exact q_CL_mem i1 (fun o ho => n o (by omega) (by omega) (by omega) (by omega) (by omega) (by omega) (by omega) (by omega))
  · rw [mm o (by omega) (by omega) (by omega), gc_up_ne (by omega)]
theorem m_restore {d : Nat} {R : gR} {μ : gM} (h : if μ 83 3 = 0 then R (some (.int (-1000000002))) (gc_up μ 87 2 (μ 87 2 + 1)) else R (some (.int (μ 85 1))) (gc_cp μ 85 84 0 0 247)) : gc_S (d + 2) 246 [.ref 83] μ R := by
  simp only [s246, u246_0, u246_1, u246_4, u246_7, u246_8, u246_9, u246_12, u246_13, u246_14, u246_16, u246_19, u246_22, u246_23, u246_26, u246_27, u246_28, u246_31, u246_32, u246_33, u246_34, u246_37, u246_40, u246_41, u246_44, u246_45, u246_46, ly_kd, ly_al, ly_fv0, ly_fv1, ly_fv2, ly_fv3, ly_fv4, ly_fk, ly_ra, Option.toList, List.cons_append, List.nil_append, q_ski, q_skr, q_sku, if_true, if_false, m_f2]
  by_cases h0 : μ 83 3 = 0
  · rw [if_pos h0] at h
    simp only [h0, if_true]
    exact h
  · rw [if_neg h0] at h
    simp only [h0, if_false]
    refine (q_loop0 (X := fun c => gc_W (gc_S (d+1)) cX12_restore 12 0 R 15 [.ref 83, .int (nI c)] [] (gc_cp μ 85 84 0 0 c)) 247 (by rw [q_cp_0]; exact Iff.rfl) (fun c hc => (u246_15).trans ?_) ?_).mpr h
    · have e := q_cp_s (μ := μ) (o1 := 85) (o2 := 84) (a := 0) (b := 0) (n := c)
      rw [Nat.zero_add] at e
      simp only [u246_0, u246_1, u246_4, u246_7, u246_8, u246_9, u246_12, u246_13, u246_14, u246_16, u246_19, u246_22, u246_23, u246_26, u246_27, u246_28, u246_31, u246_32, u246_33, u246_34, u246_37, u246_40, u246_41, u246_44, u246_45, u246_46, q_nle hc (by decide) (show (247 : Int32) = nI 247 from rfl), ly_kd, ly_al, ly_fv0, ly_fv1, ly_fv2, ly_fv3, ly_fv4, ly_fk, ly_ra, vp_in_nI hc (by decide), true_and, nI_clamp (show c < 2 ^ 31 by omega), nI_1, if_false, q_cp_o (show (85 : Nat) ≠ 84 by decide), e]
    · refine (u246_15).trans ?_
      have e1 : gc_cp μ 85 84 0 0 247 84 1 = μ 85 1 := by rw [gc_cp_eq, pk_cpy_in (by omega) (by omega)]
      simp only [u246_0, u246_1, u246_4, u246_7, u246_8, u246_9, u246_12, u246_13, u246_14, u246_16, u246_19, u246_22, u246_23, u246_26, u246_27, u246_28, u246_31, u246_32, u246_33, u246_34, u246_37, u246_40, u246_41, u246_44, u246_45, u246_46, show (247 : Int32) ≤ nI 247 by decide, if_true, ly_kd, ly_al, ly_fv0, ly_fv1, ly_fv2, ly_fv3, ly_fv4, ly_fk, ly_ra, Option.toList, List.cons_append, List.nil_append, q_ski, q_skr, q_sku, if_true, if_false, q_v247, q_tn, true_and, e1]
theorem p_restore : q_P 136 246 [.ref 0] [.ref 83] := by
  intro μ R I hk
  have I' := I
  obtain ⟨i1, ⟨im1, im2⟩, i3, i4, i5⟩ := I
  simp only [s136, u136_0, u136_1, u136_4, u136_7, u136_8, u136_9, u136_12, u136_13, u136_14, u136_17, u136_18, u136_21, u136_24, u136_25, u136_28, u136_31, ly_kd, ly_al, ly_fv0, ly_fv1, ly_fv2, ly_fv3, ly_fv4, ly_fk, ly_ra, Option.toList, List.cons_append, List.nil_append, q_ski, q_skr, q_sku, if_true, if_false, t_ref2]
  by_cases h0 : μ 0 9 = 0
  · simp only [h0, if_true]
    refine hk _ _ (q_hi_up q_hi.rf (by omega)) (fun R2 h2 => ?_)
    refine m_restore ?_
    rw [if_pos (by rw [gc_up_ne (by omega), ← im1, h0])]
    exact q_P_ref I' (by omega) q_fx.rf.fy q_fx.rf.fy h2
  · simp only [h0, if_false]
    refine t_takesAll31 (D := μ 85) (im2 h0) (fun μ1 m1 c1 => ?_)
    have e12 : μ1 31 12 = μ 85 1 := c1.2.2.1.2.2.2.2.2.2.2.1
    simp only [u136_0, u136_1, u136_4, u136_7, u136_8, u136_9, u136_12, u136_13, u136_14, u136_17, u136_18, u136_21, u136_24, u136_25, u136_28, u136_31, ly_kd, ly_al, ly_fv0, ly_fv1, ly_fv2, ly_fv3, ly_fv4, ly_fk, ly_ra, Option.toList, List.cons_append, List.nil_append, q_ski, q_skr, q_sku, if_true, if_false, e12]
    refine hk _ _ (fun o ho => m1 o (by omega)) (fun R2 h2 => ?_)
    refine m_restore ?_
    have e85 : μ1 85 = μ 85 := m1 85 (by omega)
    rw [if_neg (by rw [m1 83 (by omega), ← im1]; exact h0), e85]
    have mm : ∀ o, o ≠ 84 → gc_cp μ1 85 84 0 0 247 o = μ1 o := fun o a => gc_cp_ne a
    have m84 : ∀ j, j < 247 → gc_cp μ1 85 84 0 0 247 84 j = μ 85 j := fun j hj => by
      rw [gc_cp_eq, pk_cpy_in (by omega) (by omega), e85, show 0 + (j - 0) = j by omega]
    generalize gc_cp μ1 85 84 0 0 247 = μ2 at mm m84 ⊢
    refine h2 μ2 (q_I_now I' (fun o a b c d e f g h => by rw [mm o c]; exact m1 o (by omega)) (by rw [mm _ (by omega), m1 83 (by omega)]) (by rw [mm _ (by omega), m1 83 (by omega)]) (q_CL_247 (q_CL_mem c1 (fun o ho => mm o (by omega))) m84)) (fun o ho => mm o (by omega))
theorem q_gn {n : Nat} {k : Int32} (hn : n < 2 ^ 31) : (0 ≤ k ∧ k < nI n) ↔ (0 ≤ k ∧ k ≤ nI n - 1) := by
  rcases Nat.eq_zero_or_pos n with rfl | hp
  · constructor
    · rintro ⟨a, b⟩
      exact absurd (Int32.lt_of_le_of_lt a b) (by decide)
    · rintro ⟨a, b⟩
      exact absurd (Int32.le_trans a b) (by decide)
  · obtain ⟨m, rfl⟩ : ∃ m, n = m + 1 := ⟨n - 1, by omega⟩
    rw [nI_pred]
    constructor
    · rintro ⟨a, b⟩
      refine ⟨a, ?_⟩
      obtain ⟨j, hj, rfl⟩ := nI_of (Int32.not_lt.mpr a)
      have := (nI_ltI hj (by omega)).mp b
      exact nI_le (by omega) (by omega)
    · rintro ⟨a, b⟩
      refine ⟨a, ?_⟩
      obtain ⟨j, hj, rfl⟩ := nI_of (Int32.not_lt.mpr a)
      have := (nI_leI hj (by omega)).mp b
      exact nI_lt (by omega) (by omega)
theorem q_kn {n : Nat} {k : Int32} (hn : n < 2 ^ 31) (h : 0 ≤ k ∧ k < nI n) : ∃ j, j < n ∧ k = nI j := by
  obtain ⟨j, hj, rfl⟩ := nI_of (Int32.not_lt.mpr h.1)
  exact ⟨j, (nI_ltI hj (by omega)).mp h.2, rfl⟩
theorem p_trace {k : Int32} : q_P 128 239 [.ref 0, .int k] [.ref 83, .int k] := by
  intro μ R I hk
  obtain ⟨t, t40, t1, t2, t3⟩ := I.2.2.2.1
  have gm := q_gn (k := k) (n := t) (by omega)
  by_cases h1 : 0 ≤ k ∧ k < nI t
  · have h1' := gm.mp h1
    obtain ⟨i, hi, rfl⟩ := q_kn (by omega) h1
    simp only [s128, u128_0, u128_1, u128_4, u128_7, u128_8, u128_11, u128_14, u128_15, u128_18, u128_21, u128_24, u128_25, u128_26, u128_29, u128_30, u128_31, u128_34, ly_kd, ly_al, ly_fv0, ly_fv1, ly_fv2, ly_fv3, ly_fv4, ly_fk, ly_ra, Option.toList, List.cons_append, List.nil_append, q_ski, q_skr, q_sku, if_true, if_false, t_upTo, t_isCell, t_isMourner, t_isKM, t_isUse, t_isSheet, t_ref1, t_ref2, t_ref3, t_ref4, t_ref5, q_b0, q_not, and_self, t_has (r := 77) rfl (fun _ => rfl), t1, h1, vp_in_nI (show i < 40 by omega) (by decide), nI_clamp (show i < 2 ^ 31 by omega), true_and]
    refine hk _ _ q_hi.rf (fun R2 h2 => ?_)
    simp only [s239, u239_0, u239_1, u239_2, u239_3, u239_4, u239_7, u239_8, u239_9, u239_10, u239_13, u239_16, u239_17, u239_20, u239_21, u239_22, u239_25, u239_26, u239_27, u239_30, ly_kd, ly_al, ly_fv0, ly_fv1, ly_fv2, ly_fv3, ly_fv4, ly_fk, ly_ra, Option.toList, List.cons_append, List.nil_append, q_ski, q_skr, q_sku, if_true, if_false, t2, show ∀ x : Int32, (x - 1).toInt64 = (x - 1).toInt64 from fun _ => rfl, m_in, q_wl0, fa_wide_le, h1', q_b0, q_not, and_self, vp_in_nI (show i < 40 by omega) (by decide), nI_clamp (show i < 2 ^ 31 by omega), true_and]
    rw [← t3 i hi]
    exact h2 μ I q_hi.rf
  · have h1' : ¬ (0 ≤ k ∧ k ≤ nI t - 1) := fun z => h1 (gm.mpr z)
    simp only [s128, u128_0, u128_1, u128_4, u128_7, u128_8, u128_11, u128_14, u128_15, u128_18, u128_21, u128_24, u128_25, u128_26, u128_29, u128_30, u128_31, u128_34, ly_kd, ly_al, ly_fv0, ly_fv1, ly_fv2, ly_fv3, ly_fv4, ly_fk, ly_ra, Option.toList, List.cons_append, List.nil_append, q_ski, q_skr, q_sku, if_true, if_false, t_upTo, t_isCell, t_isMourner, t_isKM, t_isUse, t_isSheet, t_ref1, t_ref2, t_ref3, t_ref4, t_ref5, q_b0, q_not, and_self, t_has (r := 77) rfl (fun _ => rfl), t1, h1]
    refine hk _ _ (q_hi_up q_hi.rf (by omega)) (fun R2 h2 => ?_)
    simp only [s239, u239_0, u239_1, u239_2, u239_3, u239_4, u239_7, u239_8, u239_9, u239_10, u239_13, u239_16, u239_17, u239_20, u239_21, u239_22, u239_25, u239_26, u239_27, u239_30, ly_kd, ly_al, ly_fv0, ly_fv1, ly_fv2, ly_fv3, ly_fv4, ly_fk, ly_ra, Option.toList, List.cons_append, List.nil_append, q_ski, q_skr, q_sku, if_true, if_false, m_in, m_isCell, m_isMourner, m_isKm, m_isSheet, m_f1, m_f2, m_f3, m_f4, m_f5, q_b0, q_not, and_self, q_wl0, q_wl1, q_wl48, q_wu1, q_wu2, q_wu3, q_wu5, q_wu6, q_wu7, q_wu8, q_wu15, q_wu30, q_wu40, q_wu57, q_wu60, q_wu69, q_wu99, q_wu1584, fa_wide_le, q_up_o (show (84 : Nat) ≠ 79 by decide), fa_wide_le, t2, q_up_o (show (83 : Nat) ≠ 79 by decide), h1']
    exact q_P_ref I (by omega) q_fx.rf.fy q_fx.rf.fy h2
