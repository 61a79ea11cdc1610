/-! pairs: mourners -/
theorem q_ok_n {D : Nat → Int32} (hok : q_ok D) {n : Nat} (hn : n ≤ 8) : q_ok (upd D 0 (nI n)) := by
  obtain ⟨-, ⟨y, hy, hy2⟩, hwet, htorn, hlist, hm, hwf⟩ := hok
  have o : ∀ i, i ≠ 0 → upd D 0 (nI n) i = D i := fun i hi => if_neg hi
  refine ⟨⟨n, if_pos rfl, hn⟩, ⟨y, by rw [o _ (by omega)]; exact hy, hy2⟩, fun j hj => by rw [o _ (by omega)]; exact hwet j hj, fun j hj => by rw [o _ (by omega)]; exact htorn j hj, fun p hp => by rw [o _ (by omega)]; exact hlist p hp, fun i hi => ?_, fun u hu => ?_⟩
  · rw [o _ (by omega), o _ (by omega), o _ (by omega), o _ (by omega)]; exact hm i hi
  · obtain ⟨k, hk, hk2⟩ := hwf u hu
    refine ⟨k, by rw [o _ (by omega)]; exact hk, ?_⟩
    have : q_code (upd D 0 (nI n)) u = q_code D u := funext fun j => o _ (by omega)
    rw [this]; exact hk2
theorem q_R_z {k : Nat} {D : Nat → Int32} {μ : gM} (h : q_R k D μ) {x : Int32} : q_R k D (gc_up μ k 14 x) := by
  obtain ⟨h1, h2, h3, h4, h5, h6, h7, h8, h9⟩ := h
  have m : ∀ o, o ≠ k → gc_up μ k 14 x o = μ o := fun o ho => gc_up_ne ho
  refine ⟨fun j hj => ?_, fun j hj => ?_, fun j hj => ?_, fun j hj => ?_, fun j hj => ?_, fun j hj => ?_, ?_, ?_, ?_⟩
  · rw [m _ (by omega)]; exact h1 j hj
  · rw [m _ (by omega)]; exact h2 j hj
  · rw [m _ (by omega)]; exact h3 j hj
  · rw [m _ (by omega)]; exact h4 j hj
  · rw [m _ (by omega)]; exact h5 j hj
  · rw [m _ (by omega)]; exact h6 j hj
  · rw [q_up_j (by omega)]; exact h7
  · rw [q_up_j (by omega)]; exact h8
  · rw [q_up_j (by omega)]; exact h9
theorem p_seed {v : Int32} : q_P 126 201 [.ref 0, .int v] [.ref 83, .int v] := by
  intro μ R I hk
  obtain ⟨ok, ⟨y, hy, hy2⟩, hR, hL⟩ := q_c31 I
  simp only [s126, u126_0, u126_1, u126_4, u126_7, u126_8, u126_9, u126_12, u126_13, u126_16, u126_17, ly_kd, ly_al, ly_fv0, ly_fv1, ly_fv2, ly_fv3, ly_fv4, ly_fk, ly_ra, Option.toList, List.cons_append, List.nil_append, q_ski, q_skr, q_sku, if_true, if_false, q_I_z I]
  refine hk _ _ (q_hi_up q_hi.rf (by omega)) (fun R2 h2 => ?_)
  simp only [s201, u201_0, u201_1, u201_2, u201_3, u201_6, ly_kd, ly_al, ly_fv0, ly_fv1, ly_fv2, ly_fv3, ly_fv4, ly_fk, ly_ra, Option.toList, List.cons_append, List.nil_append, q_ski, q_skr, q_sku, if_true, if_false, m_becomes, q_v247, q_tn, true_and, q_up_o (show (84 : Nat) ≠ 31 by decide)]
  have o : ∀ j, j ≠ 2 → upd (μ 84) 2 v j = μ 84 j := fun j hj => if_neg hj
  obtain ⟨a, b⟩ := q_I_yr I (D' := upd (μ 84) 2 v) (q_ok_2 ok) ⟨y, (o 1 (by omega)).trans hy, hy2⟩ (q_R_D (q_R_z (x := v) hR) (fun j _ b _ _ => o j b)) (q_up_same.trans (if_pos rfl).symm) (o 3 (by omega)) (o 4 (by omega)) (fun j hj => o j (by omega)) (fun o a _ _ => gc_up_ne (by omega)) _ q_fr_up (by rw [gc_up_eq, gc_up_ne (by omega)])
  exact h2 _ a b
theorem q_10 {q : Nat} (hq : q < 2 ^ 31) : nI q / 10 = nI (q / 10) ∧ nI q - nI (q / 10) * 10 = nI (q % 10) := by
  have h : nI q / 10 = nI (q / 10) := pk_div hq (by decide) (by decide)
  exact ⟨h, by rw [← h]; exact pk_rem hq (by decide) (by decide)⟩
set_option maxHeartbeats 1000000 in
theorem p_mourner {q s c : Int32} : q_P 81 192 [.ref 0, .int q, .int s, .int c] [.ref 83, .int q, .int s, .int c] := by
  intro μ R I hk
  obtain ⟨ok, ⟨y, hy, hy2⟩, hR, hL⟩ := q_c31 I
  obtain ⟨n, hn, hn', hn8⟩ := q_n31 I
  by_cases h1 : 0 ≤ q ∧ q ≤ 69
  · by_cases h2 : 0 ≤ s ∧ s ≤ 99
    · by_cases h3 : 0 ≤ c ∧ c ≤ 15
      · by_cases h4 : n = 8
        · have h5 : ¬ nI n < (8 : Int32) := by rw [h4]; decide
          have h6 : (nI n = 8) = True := by rw [h4]; exact eq_true rfl
          exact (by
      simp only [s81, u81_0, u81_1, u81_4, u81_7, u81_9, u81_10, u81_13, u81_16, u81_17, u81_20, u81_23, u81_24, u81_25, u81_28, u81_29, u81_30, u81_33, u81_36, u81_38, u81_41, u81_42, u81_43, u81_46, u81_47, u81_48, u81_51, u81_54, u81_56, u81_57, u81_60, u81_61, u81_64, u81_65, u81_66, u81_69, u81_70, u81_73, u81_76, u81_78, u81_79, u81_81, u81_82, u81_83, u81_84, u81_87, u81_90, u81_92, u81_93, u81_95, u81_96, u81_97, u81_98, u81_101, u81_104, u81_106, u81_107, u81_108, u81_109, u81_112, u81_115, u81_117, u81_118, u81_119, u81_121, ly_kd, ly_al, ly_fv0, ly_fv1, ly_fv2, ly_fv3, ly_fv4, ly_fk, ly_ra, Option.toList, List.cons_append, List.nil_append, q_ski, q_skr, q_sku, if_true, if_false, t_upTo, t_isCell, t_isMourner, t_isKM, t_isUse, t_isSheet, t_ref1, t_ref2, t_ref3, t_ref4, t_ref5, q_b0, q_not, and_self, h1, h2, h3, h5, h6, hn, hn', q_v247, q_tn, true_and]
      refine hk _ _ (q_hi_up q_hi.rf (by omega)) (fun R2 hr2 => ?_)
      simp only [s192, u192_0, u192_1, u192_4, u192_7, u192_8, u192_9, u192_10, u192_13, u192_16, u192_19, u192_20, u192_23, u192_26, u192_27, u192_28, u192_31, u192_32, u192_33, u192_36, u192_37, u192_38, u192_40, u192_43, u192_44, u192_45, u192_48, u192_49, u192_50, u192_53, u192_54, u192_55, u192_57, u192_58, u192_60, u192_61, u192_62, u192_64, u192_65, u192_68, u192_69, u192_71, u192_72, u192_73, u192_75, u192_76, u192_79, u192_80, u192_82, u192_83, u192_84, u192_87, u192_88, u192_90, u192_91, u192_92, u192_95, u192_96, u192_99, u192_100, u192_101, u192_102, u192_103, u192_104, u192_105, u192_107, ly_kd, ly_al, ly_fv0, ly_fv1, ly_fv2, ly_fv3, ly_fv4, ly_fk, ly_ra, Option.toList, List.cons_append, List.nil_append, q_ski, q_skr, q_sku, if_true, if_false, m_in, m_isCell, m_isMourner, m_isKm, m_isSheet, m_f1, m_f2, m_f3, m_f4, m_f5, q_b0, q_not, and_self, q_wl0, q_wl1, q_wl48, q_wu1, q_wu2, q_wu3, q_wu5, q_wu6, q_wu7, q_wu8, q_wu15, q_wu30, q_wu40, q_wu57, q_wu60, q_wu69, q_wu99, q_wu1584, fa_wide_le, q_up_o (show (84 : Nat) ≠ 79 by decide), h1, h2, h3, h5, h6, hn, hn', q_v247, q_tn, true_and]
      exact q_P_ref I (by omega) q_fx.rf.fy q_fx.rf.fy hr2)
        · have h5 : nI n < (8 : Int32) := (show nI n < nI 8 from nI_lt (by omega) (by decide))
          have h6 : ¬ nI n = 8 := fun z => h4 ((nI_eq (by omega) (by decide : 8 < 2 ^ 31)).mp z)
          obtain ⟨q, hq, rfl⟩ := q_rng (n := 69) rfl h1
          obtain ⟨s, hs, rfl⟩ := q_rng (n := 99) rfl h2
          obtain ⟨c, hc, rfl⟩ := q_rng (n := 15) rfl h3
          have e10 := q_10 (show q < 2 ^ 31 by omega)
          have hw := q_wi (show n < 8 by omega)
          simp only [s81, u81_0, u81_1, u81_4, u81_7, u81_9, u81_10, u81_13, u81_16, u81_17, u81_20, u81_23, u81_24, u81_25, u81_28, u81_29, u81_30, u81_33, u81_36, u81_38, u81_41, u81_42, u81_43, u81_46, u81_47, u81_48, u81_51, u81_54, u81_56, u81_57, u81_60, u81_61, u81_64, u81_65, u81_66, u81_69, u81_70, u81_73, u81_76, u81_78, u81_79, u81_81, u81_82, u81_83, u81_84, u81_87, u81_90, u81_92, u81_93, u81_95, u81_96, u81_97, u81_98, u81_101, u81_104, u81_106, u81_107, u81_108, u81_109, u81_112, u81_115, u81_117, u81_118, u81_119, u81_121, ly_kd, ly_al, ly_fv0, ly_fv1, ly_fv2, ly_fv3, ly_fv4, ly_fk, ly_ra, Option.toList, List.cons_append, List.nil_append, q_ski, q_skr, q_sku, if_true, if_false, t_upTo, t_isCell, t_isMourner, t_isKM, t_isUse, t_isSheet, t_ref1, t_ref2, t_ref3, t_ref4, t_ref5, q_b0, q_not, and_self, h1, h2, h3, h5, hn', e10, nI_1, vp_in_nI (show n < 8 by omega) (by decide), nI_clamp (show n < 2 ^ 31 by omega), show ¬ (10 : Int32) = 0 by decide, not_false_eq_true, true_and]
          refine hk _ _ (q_hi_up (q_hi_up (q_hi_up (q_hi_up (q_hi_up q_hi.rf (by omega)) (by omega)) (by omega)) (by omega)) (by omega)) (fun R2 h7 => ?_)
          have r := q_R_a (x := nI c) (q_R_s (x := nI s) (q_R_m (x := nI (q % 10)) (q_R_k (x := nI (q / 10)) (q_R_n (x := nI (n + 1)) hR) (show n < 8 by omega)) (show n < 8 by omega)) (show n < 8 by omega)) (show n < 8 by omega)
          have g : ∀ o, (o < 31 ∨ 38 < o) → gc_up (gc_up (gc_up (gc_up (gc_up μ 31 13 (nI (n + 1))) 35 n (nI (q / 10))) 36 n (nI (q % 10))) 37 n (nI s)) 38 n (nI c) o = μ o := fun o ho => by rw [gc_up_ne (by omega), gc_up_ne (by omega), gc_up_ne (by omega), gc_up_ne (by omega), gc_up_ne (by omega)]
          have z : gc_up (gc_up (gc_up (gc_up (gc_up μ 31 13 (nI (n + 1))) 35 n (nI (q / 10))) 36 n (nI (q % 10))) 37 n (nI s)) 38 n (nI c) 31 14 = μ 31 14 := by rw [gc_up_ne (by omega), gc_up_ne (by omega), gc_up_ne (by omega), gc_up_ne (by omega), q_up_j (by omega)]
          generalize gc_up (gc_up (gc_up (gc_up (gc_up μ 31 13 (nI (n + 1))) 35 n (nI (q / 10))) 36 n (nI (q % 10))) 37 n (nI s)) 38 n (nI c) = μ1 at r g z h7 ⊢
          have e84 : μ1 84 = μ 84 := g 84 (by omega)
          simp only [s192, u192_0, u192_1, u192_4, u192_7, u192_8, u192_9, u192_10, u192_13, u192_16, u192_19, u192_20, u192_23, u192_26, u192_27, u192_28, u192_31, u192_32, u192_33, u192_36, u192_37, u192_38, u192_40, u192_43, u192_44, u192_45, u192_48, u192_49, u192_50, u192_53, u192_54, u192_55, u192_57, u192_58, u192_60, u192_61, u192_62, u192_64, u192_65, u192_68, u192_69, u192_71, u192_72, u192_73, u192_75, u192_76, u192_79, u192_80, u192_82, u192_83, u192_84, u192_87, u192_88, u192_90, u192_91, u192_92, u192_95, u192_96, u192_99, u192_100, u192_101, u192_102, u192_103, u192_104, u192_105, u192_107, ly_kd, ly_al, ly_fv0, ly_fv1, ly_fv2, ly_fv3, ly_fv4, ly_fk, ly_ra, Option.toList, List.cons_append, List.nil_append, q_ski, q_skr, q_sku, if_true, if_false, m_in, m_isCell, m_isMourner, m_isKm, m_isSheet, m_f1, m_f2, m_f3, m_f4, m_f5, q_b0, q_not, and_self, q_wl0, q_wl1, q_wl48, q_wu1, q_wu2, q_wu3, q_wu5, q_wu6, q_wu7, q_wu8, q_wu15, q_wu30, q_wu40, q_wu57, q_wu60, q_wu69, q_wu99, q_wu1584, fa_wide_le, q_up_o (show (84 : Nat) ≠ 79 by decide), h1, h2, h3, h6, e84, hn, q_v247, q_tn, m_sets, e10, hw, show ¬ (10 : Int32) = 0 by decide, not_false_eq_true, true_and]
          have o : ∀ j, j ≠ 0 → (∀ w, w < 4 → j ≠ 43 + 4 * n + w) → upd (upd (upd (upd (upd (μ 84) 0 (nI (n + 1))) (43 + 4 * n) (nI (q / 10))) (44 + 4 * n) (nI (q % 10))) (45 + 4 * n) (nI s)) (46 + 4 * n) (nI c) j = μ 84 j := fun j a b => by
            have b0 := b 0 (by omega)
            have b1 := b 1 (by omega)
            have b2 := b 2 (by omega)
            have b3 := b 3 (by omega)
            unfold upd
            rw [if_neg (by omega), if_neg (by omega), if_neg (by omega), if_neg (by omega), if_neg (by omega)]
          have okD : q_ok (upd (upd (upd (upd (upd (μ 84) 0 (nI (n + 1))) (43 + 4 * n) (nI (q / 10))) (44 + 4 * n) (nI (q % 10))) (45 + 4 * n) (nI s)) (46 + 4 * n) (nI c)) := by
            refine q_ok_upd (q_ok_upd (q_ok_upd (q_ok_upd (q_ok_n ok (by omega)) ?_ ?_ ?_ ?_ ?_ ?_) ?_ ?_ ?_ ?_ ?_ ?_) ?_ ?_ ?_ ?_ ?_ ?_) ?_ ?_ ?_ ?_ ?_ ?_
            all_goals first | omega | (intro _; omega) | (intro _ _; omega)
          have zero : ∀ x y a b e, gc_up (gc_up (gc_up (gc_up μ1 84 (43 + 4 * n) x) 84 (44 + 4 * n) y) 84 (45 + 4 * n) a) 84 (46 + 4 * n) b 84 0 + e = μ 84 0 + e := fun x y a b e => by
            rw [q_up_j (by omega), q_up_j (by omega), q_up_j (by omega), q_up_j (by omega), e84]
          rw [zero, hn, nI_1]
          obtain ⟨a, b⟩ := q_I_yr I okD ⟨y, (o 1 (by omega) (by omega)).trans hy, hy2⟩ r (z.trans ((q_I_z I).trans (o 2 (by omega) (by omega)).symm)) (o 3 (by omega) (by omega)) (o 4 (by omega) (by omega)) (fun j hj => o j (by omega) (by omega)) (fun o ho _ _ => g o ho) (gc_up (gc_up (gc_up (gc_up (gc_up μ1 84 (43 + 4 * n) (nI (q / 10))) 84 (44 + 4 * n) (nI (q % 10))) 84 (45 + 4 * n) (nI s)) 84 (46 + 4 * n) (nI c)) 84 0 (nI (n + 1))) (((((q_fr_up.tr q_fr_up).tr q_fr_up).tr q_fr_up).tr q_fr_up)) (by
            rw [gc_up_eq, gc_up_eq, gc_up_eq, gc_up_eq, gc_up_eq, e84]
            funext j
            unfold upd
            by_cases j0 : j = 0
            · subst j0
              rw [if_pos rfl, if_neg (by omega), if_neg (by omega), if_neg (by omega), if_neg (by omega), if_pos rfl]
            · rw [if_neg j0, if_neg j0])
          exact h7 _ a b
      · exact (by
      simp only [s81, u81_0, u81_1, u81_4, u81_7, u81_9, u81_10, u81_13, u81_16, u81_17, u81_20, u81_23, u81_24, u81_25, u81_28, u81_29, u81_30, u81_33, u81_36, u81_38, u81_41, u81_42, u81_43, u81_46, u81_47, u81_48, u81_51, u81_54, u81_56, u81_57, u81_60, u81_61, u81_64, u81_65, u81_66, u81_69, u81_70, u81_73, u81_76, u81_78, u81_79, u81_81, u81_82, u81_83, u81_84, u81_87, u81_90, u81_92, u81_93, u81_95, u81_96, u81_97, u81_98, u81_101, u81_104, u81_106, u81_107, u81_108, u81_109, u81_112, u81_115, u81_117, u81_118, u81_119, u81_121, ly_kd, ly_al, ly_fv0, ly_fv1, ly_fv2, ly_fv3, ly_fv4, ly_fk, ly_ra, Option.toList, List.cons_append, List.nil_append, q_ski, q_skr, q_sku, if_true, if_false, t_upTo, t_isCell, t_isMourner, t_isKM, t_isUse, t_isSheet, t_ref1, t_ref2, t_ref3, t_ref4, t_ref5, q_b0, q_not, and_self, h1, h2, h3]
      refine hk _ _ (q_hi_up q_hi.rf (by omega)) (fun R2 hr2 => ?_)
      simp only [s192, u192_0, u192_1, u192_4, u192_7, u192_8, u192_9, u192_10, u192_13, u192_16, u192_19, u192_20, u192_23, u192_26, u192_27, u192_28, u192_31, u192_32, u192_33, u192_36, u192_37, u192_38, u192_40, u192_43, u192_44, u192_45, u192_48, u192_49, u192_50, u192_53, u192_54, u192_55, u192_57, u192_58, u192_60, u192_61, u192_62, u192_64, u192_65, u192_68, u192_69, u192_71, u192_72, u192_73, u192_75, u192_76, u192_79, u192_80, u192_82, u192_83, u192_84, u192_87, u192_88, u192_90, u192_91, u192_92, u192_95, u192_96, u192_99, u192_100, u192_101, u192_102, u192_103, u192_104, u192_105, u192_107, ly_kd, ly_al, ly_fv0, ly_fv1, ly_fv2, ly_fv3, ly_fv4, ly_fk, ly_ra, Option.toList, List.cons_append, List.nil_append, q_ski, q_skr, q_sku, if_true, if_false, m_in, m_isCell, m_isMourner, m_isKm, m_isSheet, m_f1, m_f2, m_f3, m_f4, m_f5, q_b0, q_not, and_self, q_wl0, q_wl1, q_wl48, q_wu1, q_wu2, q_wu3, q_wu5, q_wu6, q_wu7, q_wu8, q_wu15, q_wu30, q_wu40, q_wu57, q_wu60, q_wu69, q_wu99, q_wu1584, fa_wide_le, q_up_o (show (84 : Nat) ≠ 79 by decide), h1, h2, h3]
      exact q_P_ref I (by omega) q_fx.rf.fy q_fx.rf.fy hr2)
    · exact (by
      simp only [s81, u81_0, u81_1, u81_4, u81_7, u81_9, u81_10, u81_13, u81_16, u81_17, u81_20, u81_23, u81_24, u81_25, u81_28, u81_29, u81_30, u81_33, u81_36, u81_38, u81_41, u81_42, u81_43, u81_46, u81_47, u81_48, u81_51, u81_54, u81_56, u81_57, u81_60, u81_61, u81_64, u81_65, u81_66, u81_69, u81_70, u81_73, u81_76, u81_78, u81_79, u81_81, u81_82, u81_83, u81_84, u81_87, u81_90, u81_92, u81_93, u81_95, u81_96, u81_97, u81_98, u81_101, u81_104, u81_106, u81_107, u81_108, u81_109, u81_112, u81_115, u81_117, u81_118, u81_119, u81_121, ly_kd, ly_al, ly_fv0, ly_fv1, ly_fv2, ly_fv3, ly_fv4, ly_fk, ly_ra, Option.toList, List.cons_append, List.nil_append, q_ski, q_skr, q_sku, if_true, if_false, t_upTo, t_isCell, t_isMourner, t_isKM, t_isUse, t_isSheet, t_ref1, t_ref2, t_ref3, t_ref4, t_ref5, q_b0, q_not, and_self, h1, h2]
      refine hk _ _ (q_hi_up q_hi.rf (by omega)) (fun R2 hr2 => ?_)
      simp only [s192, u192_0, u192_1, u192_4, u192_7, u192_8, u192_9, u192_10, u192_13, u192_16, u192_19, u192_20, u192_23, u192_26, u192_27, u192_28, u192_31, u192_32, u192_33, u192_36, u192_37, u192_38, u192_40, u192_43, u192_44, u192_45, u192_48, u192_49, u192_50, u192_53, u192_54, u192_55, u192_57, u192_58, u192_60, u192_61, u192_62, u192_64, u192_65, u192_68, u192_69, u192_71, u192_72, u192_73, u192_75, u192_76, u192_79, u192_80, u192_82, u192_83, u192_84, u192_87, u192_88, u192_90, u192_91, u192_92, u192_95, u192_96, u192_99, u192_100, u192_101, u192_102, u192_103, u192_104, u192_105, u192_107, ly_kd, ly_al, ly_fv0, ly_fv1, ly_fv2, ly_fv3, ly_fv4, ly_fk, ly_ra, Option.toList, List.cons_append, List.nil_append, q_ski, q_skr, q_sku, if_true, if_false, m_in, m_isCell, m_isMourner, m_isKm, m_isSheet, m_f1, m_f2, m_f3, m_f4, m_f5, q_b0, q_not, and_self, q_wl0, q_wl1, q_wl48, q_wu1, q_wu2, q_wu3, q_wu5, q_wu6, q_wu7, q_wu8, q_wu15, q_wu30, q_wu40, q_wu57, q_wu60, q_wu69, q_wu99, q_wu1584, fa_wide_le, q_up_o (show (84 : Nat) ≠ 79 by decide), h1, h2]
      exact q_P_ref I (by omega) q_fx.rf.fy q_fx.rf.fy hr2)
  · exact (by
      simp only [s81, u81_0, u81_1, u81_4, u81_7, u81_9, u81_10, u81_13, u81_16, u81_17, u81_20, u81_23, u81_24, u81_25, u81_28, u81_29, u81_30, u81_33, u81_36, u81_38, u81_41, u81_42, u81_43, u81_46, u81_47, u81_48, u81_51, u81_54, u81_56, u81_57, u81_60, u81_61, u81_64, u81_65, u81_66, u81_69, u81_70, u81_73, u81_76, u81_78, u81_79, u81_81, u81_82, u81_83, u81_84, u81_87, u81_90, u81_92, u81_93, u81_95, u81_96, u81_97, u81_98, u81_101, u81_104, u81_106, u81_107, u81_108, u81_109, u81_112, u81_115, u81_117, u81_118, u81_119, u81_121, ly_kd, ly_al, ly_fv0, ly_fv1, ly_fv2, ly_fv3, ly_fv4, ly_fk, ly_ra, Option.toList, List.cons_append, List.nil_append, q_ski, q_skr, q_sku, if_true, if_false, t_upTo, t_isCell, t_isMourner, t_isKM, t_isUse, t_isSheet, t_ref1, t_ref2, t_ref3, t_ref4, t_ref5, q_b0, q_not, and_self, h1]
      refine hk _ _ (q_hi_up q_hi.rf (by omega)) (fun R2 hr2 => ?_)
      simp only [s192, u192_0, u192_1, u192_4, u192_7, u192_8, u192_9, u192_10, u192_13, u192_16, u192_19, u192_20, u192_23, u192_26, u192_27, u192_28, u192_31, u192_32, u192_33, u192_36, u192_37, u192_38, u192_40, u192_43, u192_44, u192_45, u192_48, u192_49, u192_50, u192_53, u192_54, u192_55, u192_57, u192_58, u192_60, u192_61, u192_62, u192_64, u192_65, u192_68, u192_69, u192_71, u192_72, u192_73, u192_75, u192_76, u192_79, u192_80, u192_82, u192_83, u192_84, u192_87, u192_88, u192_90, u192_91, u192_92, u192_95, u192_96, u192_99, u192_100, u192_101, u192_102, u192_103, u192_104, u192_105, u192_107, ly_kd, ly_al, ly_fv0, ly_fv1, ly_fv2, ly_fv3, ly_fv4, ly_fk, ly_ra, Option.toList, List.cons_append, List.nil_append, q_ski, q_skr, q_sku, if_true, if_false, m_in, m_isCell, m_isMourner, m_isKm, m_isSheet, m_f1, m_f2, m_f3, m_f4, m_f5, q_b0, q_not, and_self, q_wl0, q_wl1, q_wl48, q_wu1, q_wu2, q_wu3, q_wu5, q_wu6, q_wu7, q_wu8, q_wu15, q_wu30, q_wu40, q_wu57, q_wu60, q_wu69, q_wu99, q_wu1584, fa_wide_le, q_up_o (show (84 : Nat) ≠ 79 by decide), h1]
      exact q_P_ref I (by omega) q_fx.rf.fy q_fx.rf.fy hr2)
