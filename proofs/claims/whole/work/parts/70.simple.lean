/-! pairs: the cloth and the list -/
theorem p_ofList {p : Int32} : q_P 79 190 [.ref 0, .int p] [.ref 83, .int p] := by
  intro μ R I hk
  obtain ⟨ok, ⟨y, hy, hy2⟩, hR, hL⟩ := q_c31 I
  by_cases h1 : 0 ≤ p ∧ p ≤ 5
  · obtain ⟨j, hj, rfl⟩ := q_rng (n := 5) rfl h1
    simp only [s79, u79_0, u79_1, u79_2, u79_5, u79_8, u79_9, u79_12, u79_15, u79_16, u79_17, u79_20, u79_21, u79_22, u79_25, ly_kd, ly_al, ly_fv0, ly_fv1, ly_fv2, ly_fv3, ly_fv4, ly_fk, ly_ra, Option.toList, List.cons_append, List.nil_append, q_ski, q_skr, q_sku, if_true, if_false, t_upTo, t_isCell, t_isMourner, t_isKM, t_isUse, t_isSheet, t_ref1, t_ref2, t_ref3, t_ref4, t_ref5, q_b0, q_not, and_self, h1, vp_in_nI (show j < 6 by omega) (by decide), nI_clamp (show j < 2 ^ 31 by omega), true_and, hR.2.1 j (by omega)]
    refine hk _ _ q_hi.rf (fun R2 h2 => ?_)
    simp only [s190, u190_0, u190_1, u190_2, u190_3, u190_6, u190_9, u190_12, u190_13, u190_16, u190_18, u190_19, u190_20, u190_21, u190_24, u190_25, u190_26, u190_29, ly_kd, ly_al, ly_fv0, ly_fv1, ly_fv2, ly_fv3, ly_fv4, ly_fk, ly_ra, Option.toList, List.cons_append, List.nil_append, q_ski, q_skr, q_sku, if_true, if_false, m_in, m_isCell, m_isMourner, m_isKm, m_isSheet, m_f1, m_f2, m_f3, m_f4, m_f5, q_b0, q_not, and_self, q_wl0, q_wl1, q_wl48, q_wu1, q_wu2, q_wu3, q_wu5, q_wu6, q_wu7, q_wu8, q_wu15, q_wu30, q_wu40, q_wu57, q_wu60, q_wu69, q_wu99, q_wu1584, fa_wide_le, q_up_o (show (84 : Nat) ≠ 79 by decide), h1, show (37 : Int32) + nI j = nI (37 + j) from nI_add 37 j, vp_in_nI (show 37 + j < 247 by omega) (by decide), nI_clamp (show 37 + j < 2 ^ 31 by omega), true_and]
    exact h2 μ I q_hi.rf
  · exact (by
      simp only [s79, u79_0, u79_1, u79_2, u79_5, u79_8, u79_9, u79_12, u79_15, u79_16, u79_17, u79_20, u79_21, u79_22, u79_25, ly_kd, ly_al, ly_fv0, ly_fv1, ly_fv2, ly_fv3, ly_fv4, ly_fk, ly_ra, Option.toList, List.cons_append, List.nil_append, q_ski, q_skr, q_sku, if_true, if_false, t_upTo, t_isCell, t_isMourner, t_isKM, t_isUse, t_isSheet, t_ref1, t_ref2, t_ref3, t_ref4, t_ref5, q_b0, q_not, and_self, h1]
      refine hk _ _ (q_hi_up q_hi.rf (by omega)) (fun R2 hr2 => ?_)
      simp only [s190, u190_0, u190_1, u190_2, u190_3, u190_6, u190_9, u190_12, u190_13, u190_16, u190_18, u190_19, u190_20, u190_21, u190_24, u190_25, u190_26, u190_29, ly_kd, ly_al, ly_fv0, ly_fv1, ly_fv2, ly_fv3, ly_fv4, ly_fk, ly_ra, Option.toList, List.cons_append, List.nil_append, q_ski, q_skr, q_sku, if_true, if_false, m_in, m_isCell, m_isMourner, m_isKm, m_isSheet, m_f1, m_f2, m_f3, m_f4, m_f5, q_b0, q_not, and_self, q_wl0, q_wl1, q_wl48, q_wu1, q_wu2, q_wu3, q_wu5, q_wu6, q_wu7, q_wu8, q_wu15, q_wu30, q_wu40, q_wu57, q_wu60, q_wu69, q_wu99, q_wu1584, fa_wide_le, q_up_o (show (84 : Nat) ≠ 79 by decide), h1]
      exact q_P_ref I (by omega) q_fx.rf.fy q_fx.rf.fy hr2)
theorem p_list {p v : Int32} : q_P 78 189 [.ref 0, .int p, .int v] [.ref 83, .int p, .int v] := by
  intro μ R I hk
  obtain ⟨ok, ⟨y, hy, hy2⟩, hR, hL⟩ := q_c31 I
  by_cases h1 : 0 ≤ p ∧ p ≤ 5
  · by_cases h3 : 0 ≤ v ∧ v ≤ 7
    · obtain ⟨j, hj, rfl⟩ := q_rng (n := 5) rfl h1
      obtain ⟨i, hi, rfl⟩ := q_rng (n := 7) rfl h3
      simp only [s78, u78_0, u78_1, u78_2, u78_5, u78_8, u78_10, u78_11, u78_14, u78_17, u78_18, u78_19, u78_22, u78_23, u78_24, u78_27, u78_30, u78_31, u78_32, u78_33, u78_34, u78_37, u78_40, u78_41, u78_42, u78_43, u78_44, ly_kd, ly_al, ly_fv0, ly_fv1, ly_fv2, ly_fv3, ly_fv4, ly_fk, ly_ra, Option.toList, List.cons_append, List.nil_append, q_ski, q_skr, q_sku, if_true, if_false, t_upTo, t_isCell, t_isMourner, t_isKM, t_isUse, t_isSheet, t_ref1, t_ref2, t_ref3, t_ref4, t_ref5, q_b0, q_not, and_self, h1, h3, vp_in_nI (show j < 6 by omega) (by decide), nI_clamp (show j < 2 ^ 31 by omega), true_and, hR.2.1 j (by omega)]
      refine hk _ _ (q_hi_up q_hi.rf (by omega)) (fun R2 h2 => ?_)
      simp only [s189, u189_0, u189_1, u189_2, u189_3, u189_6, u189_9, u189_12, u189_13, u189_14, u189_15, u189_18, u189_21, u189_24, u189_25, u189_27, u189_28, u189_29, u189_30, u189_33, u189_36, u189_37, u189_38, u189_41, ly_kd, ly_al, ly_fv0, ly_fv1, ly_fv2, ly_fv3, ly_fv4, ly_fk, ly_ra, Option.toList, List.cons_append, List.nil_append, q_ski, q_skr, q_sku, if_true, if_false, m_in, m_isCell, m_isMourner, m_isKm, m_isSheet, m_f1, m_f2, m_f3, m_f4, m_f5, q_b0, q_not, and_self, q_wl0, q_wl1, q_wl48, q_wu1, q_wu2, q_wu3, q_wu5, q_wu6, q_wu7, q_wu8, q_wu15, q_wu30, q_wu40, q_wu57, q_wu60, q_wu69, q_wu99, q_wu1584, fa_wide_le, q_up_o (show (84 : Nat) ≠ 79 by decide), m_becomes, h1, h3, show (37 : Int32) + nI j = nI (37 + j) from nI_add 37 j, vp_in_nI (show 37 + j < 247 by omega) (by decide), nI_clamp (show 37 + j < 2 ^ 31 by omega), true_and, q_up_o (show (84 : Nat) ≠ 34 by decide)]
      obtain ⟨a, b⟩ := q_I_yr I (D' := upd (μ 84) (37 + j) (nI i)) (q_ok_upd ok (by omega) (fun _ => by omega) (fun _ _ => by omega) (fun _ _ => by omega) (fun _ _ => by omega) (fun _ _ => by omega)) ⟨y, (if_neg (by omega)).trans hy, hy2⟩ (q_R_p hR (show j < 6 by omega)) ((congrFun (gc_up_ne (by omega)) 14).trans ((q_I_z I).trans (if_neg (by omega)).symm)) (if_neg (by omega)) (if_neg (by omega)) (fun _ _ => if_neg (by omega)) (fun o a _ _ => gc_up_ne (by omega)) _ q_fr_up (by rw [gc_up_eq, gc_up_ne (by omega)])
      exact h2 _ a b
    · exact (by
      simp only [s78, u78_0, u78_1, u78_2, u78_5, u78_8, u78_10, u78_11, u78_14, u78_17, u78_18, u78_19, u78_22, u78_23, u78_24, u78_27, u78_30, u78_31, u78_32, u78_33, u78_34, u78_37, u78_40, u78_41, u78_42, u78_43, u78_44, ly_kd, ly_al, ly_fv0, ly_fv1, ly_fv2, ly_fv3, ly_fv4, ly_fk, ly_ra, Option.toList, List.cons_append, List.nil_append, q_ski, q_skr, q_sku, if_true, if_false, t_upTo, t_isCell, t_isMourner, t_isKM, t_isUse, t_isSheet, t_ref1, t_ref2, t_ref3, t_ref4, t_ref5, q_b0, q_not, and_self, h1, h3]
      refine hk _ _ (q_hi_up q_hi.rf (by omega)) (fun R2 hr2 => ?_)
      simp only [s189, u189_0, u189_1, u189_2, u189_3, u189_6, u189_9, u189_12, u189_13, u189_14, u189_15, u189_18, u189_21, u189_24, u189_25, u189_27, u189_28, u189_29, u189_30, u189_33, u189_36, u189_37, u189_38, u189_41, ly_kd, ly_al, ly_fv0, ly_fv1, ly_fv2, ly_fv3, ly_fv4, ly_fk, ly_ra, Option.toList, List.cons_append, List.nil_append, q_ski, q_skr, q_sku, if_true, if_false, m_in, m_isCell, m_isMourner, m_isKm, m_isSheet, m_f1, m_f2, m_f3, m_f4, m_f5, q_b0, q_not, and_self, q_wl0, q_wl1, q_wl48, q_wu1, q_wu2, q_wu3, q_wu5, q_wu6, q_wu7, q_wu8, q_wu15, q_wu30, q_wu40, q_wu57, q_wu60, q_wu69, q_wu99, q_wu1584, fa_wide_le, q_up_o (show (84 : Nat) ≠ 79 by decide), h1, h3]
      exact q_P_ref I (by omega) q_fx.rf.fy q_fx.rf.fy hr2)
  · exact (by
      simp only [s78, u78_0, u78_1, u78_2, u78_5, u78_8, u78_10, u78_11, u78_14, u78_17, u78_18, u78_19, u78_22, u78_23, u78_24, u78_27, u78_30, u78_31, u78_32, u78_33, u78_34, u78_37, u78_40, u78_41, u78_42, u78_43, u78_44, ly_kd, ly_al, ly_fv0, ly_fv1, ly_fv2, ly_fv3, ly_fv4, ly_fk, ly_ra, Option.toList, List.cons_append, List.nil_append, q_ski, q_skr, q_sku, if_true, if_false, t_upTo, t_isCell, t_isMourner, t_isKM, t_isUse, t_isSheet, t_ref1, t_ref2, t_ref3, t_ref4, t_ref5, q_b0, q_not, and_self, h1]
      refine hk _ _ (q_hi_up q_hi.rf (by omega)) (fun R2 hr2 => ?_)
      simp only [s189, u189_0, u189_1, u189_2, u189_3, u189_6, u189_9, u189_12, u189_13, u189_14, u189_15, u189_18, u189_21, u189_24, u189_25, u189_27, u189_28, u189_29, u189_30, u189_33, u189_36, u189_37, u189_38, u189_41, ly_kd, ly_al, ly_fv0, ly_fv1, ly_fv2, ly_fv3, ly_fv4, ly_fk, ly_ra, Option.toList, List.cons_append, List.nil_append, q_ski, q_skr, q_sku, if_true, if_false, m_in, m_isCell, m_isMourner, m_isKm, m_isSheet, m_f1, m_f2, m_f3, m_f4, m_f5, q_b0, q_not, and_self, q_wl0, q_wl1, q_wl48, q_wu1, q_wu2, q_wu3, q_wu5, q_wu6, q_wu7, q_wu8, q_wu15, q_wu30, q_wu40, q_wu57, q_wu60, q_wu69, q_wu99, q_wu1584, fa_wide_le, q_up_o (show (84 : Nat) ≠ 79 by decide), h1]
      exact q_P_ref I (by omega) q_fx.rf.fy q_fx.rf.fy hr2)
theorem q_ok_w {D : Nat → Int32} (hok : q_ok D) {c v : Nat} (hc : c < 16) (hv : v ≤ 99) : q_ok (upd D (5 + c) (nI v)) := by
  have e : nI v = q_hd (nI v) := (q_hd_id (by rw [nI_toInt (by omega)]; omega) (by rw [nI_toInt (by omega)]; omega)).symm
  refine q_ok_of hok (fun j hj => ?_) (fun j hj => Or.inr (if_neg (by omega))) (fun j h1 _ => if_neg (by omega))
  by_cases h : j = c
  · subst h; exact Or.inl ⟨nI v, (if_pos rfl).trans e⟩
  · exact Or.inr (if_neg (by omega))
theorem q_ok_t {D : Nat → Int32} (hok : q_ok D) {c v : Nat} (hc : c < 16) (hv : v ≤ 1) : q_ok (upd D (21 + c) (nI v)) := by
  obtain ⟨⟨n, hn, hn8⟩, ⟨y, hy, hy2⟩, hwet, htorn, hlist, hm, hwf⟩ := hok
  have o : ∀ i, i ≠ 21 + c → upd D (21 + c) (nI v) i = D i := fun i hi => if_neg hi
  refine ⟨⟨n, by rw [o _ (by omega)]; exact hn, hn8⟩, ⟨y, by rw [o _ (by omega)]; exact hy, hy2⟩, fun j hj => by rw [o _ (by omega)]; exact hwet j hj, fun j hj => ?_, fun p hp => by rw [o _ (by omega)]; exact hlist p hp, fun i hi => ?_, fun u hu => ?_⟩
  · by_cases e : j = c
    · subst e
      have e1 : upd D (21 + j) (nI v) (21 + j) = nI v := if_pos rfl
      rw [e1]
      rcases (show v = 0 ∨ v = 1 by omega) with rfl | rfl
      · exact Or.inl rfl
      · exact Or.inr rfl
    · rw [o _ (by omega)]; exact htorn j hj
  · rw [o _ (by omega), o _ (by omega), o _ (by omega), o _ (by omega)]; exact hm i hi
  · obtain ⟨k, hk, hk2⟩ := hwf u hu
    refine ⟨k, by rw [o _ (by omega)]; exact hk, ?_⟩
    have : q_code (upd D (21 + c) (nI v)) u = q_code D u := funext fun j => o _ (by omega)
    rw [this]; exact hk2
theorem q_R_t {k : Nat} {D : Nat → Int32} {μ : gM} (h : q_R k D μ) {c v : Nat} (hc : c < 16) (hv : v ≤ 1) : q_R k (upd D (21 + c) (nI v)) (gc_up μ k 11 (μ k 11 &&& ((1 : Int32) <<< (nI c &&& 31) ^^^ -1) ||| nI v <<< (nI c &&& 31))) := by
  obtain ⟨h1, h2, h3, h4, h5, h6, h7, h8, h9⟩ := h
  have o : ∀ j, j ≠ 21 + c → upd D (21 + c) (nI v) j = D j := fun j hj => if_neg hj
  rw [h7]
  have e : q_set (fun c => decide (D (21 + c) = 1)) 16 &&& ((1 : Int32) <<< (nI c &&& 31) ^^^ -1) ||| nI v <<< (nI c &&& 31) = q_set (fun j => decide (upd D (21 + c) (nI v) (21 + j) = 1)) 16 := by
    refine q_set_eq (by omega) (fun i hi => ?_)
    rw [b_or, b_and, q_set_bt 16 (by omega) i hi, b_not hi, b_sh1 (by omega) hi, b_shl c (by omega) _ hi, b_nI (by omega)]
    rcases (show v = 0 ∨ v = 1 by omega) with rfl | rfl
    · by_cases e : i = c
      · subst e
        have e1 : upd D (21 + i) (nI 0) (21 + i) = nI 0 := if_pos rfl
        rw [e1]; simp
        exact fun _ => by decide
      · rw [o _ (by omega)]; simp [e]
    · by_cases e : i = c
      · subst e
        have e1 : upd D (21 + i) (nI 1) (21 + i) = nI 1 := if_pos rfl
        rw [e1]; simp [hc]
        exact rfl
      · rw [o _ (by omega)]
        by_cases e2 : c ≤ i
        · have : Nat.testBit 1 (i - c) = false := by
            obtain ⟨z, hz⟩ : ∃ z, i - c = z + 1 := ⟨i - c - 1, by omega⟩
            rw [hz, Nat.testBit_succ]; simp
          simp [e, this]
        · simp [e, e2]
  obtain ⟨x, hx⟩ : ∃ x, x = q_set (fun j => decide (upd D (21 + c) (nI v) (21 + j) = 1)) 16 := ⟨_, rfl⟩
  rw [e, ← hx]
  have m : ∀ o, o ≠ k → gc_up μ k 11 x o = μ o := fun o ho => gc_up_ne ho
  refine ⟨fun j hj => ?_, fun j hj => ?_, fun j hj => ?_, fun j hj => ?_, fun j hj => ?_, fun j hj => ?_, ?_, ?_, ?_⟩
  · rw [m _ (by omega), o _ (by omega)]; exact h1 j hj
  · rw [m _ (by omega), o _ (by omega)]; exact h2 j hj
  · rw [m _ (by omega), o _ (by omega)]; exact h3 j hj
  · rw [m _ (by omega), o _ (by omega)]; exact h4 j hj
  · rw [m _ (by omega), o _ (by omega)]; exact h5 j hj
  · rw [m _ (by omega), o _ (by omega)]; exact h6 j hj
  · rw [q_up_same]; exact hx
  · rw [q_up_j (by omega), o _ (by omega)]; exact h8
  · rw [q_up_j (by omega), o _ (by omega)]; exact h9
