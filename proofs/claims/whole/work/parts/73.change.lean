theorem p_change {k w v : Int32} : q_P 84 194 [.ref 0, .int k, .int w, .int v] [.ref 83, .int k, .int w, .int v] := by
  intro μ R I hk
  obtain ⟨ok, ⟨y, hy, hy2⟩, hR, hL⟩ := q_c31 I
  obtain ⟨n, hn, hn', hn8⟩ := q_n31 I
  have gm := q_gm (k := k) hn8
  by_cases h1 : 0 ≤ k ∧ k < nI n
  · have h1' := gm.mp h1
    by_cases h2 : 0 ≤ w ∧ w ≤ 1
    · obtain ⟨i, hi, rfl⟩ := q_km hn8 h1
      obtain ⟨z, hz, rfl⟩ := q_rng (n := 1) rfl h2
      have vi : vp_in (nI i) 8 := vp_in_nI (by omega) (by decide)
      have ci : (nI i).toNatClampNeg = i := nI_clamp (by omega)
      rcases (show z = 0 ∨ z = 1 by omega) with rfl | rfl
      · have e0 : nI 0 = 0 := rfl
        rw [e0] at hk h2 ⊢
        by_cases h3 : 0 ≤ v ∧ v ≤ 99
        · obtain ⟨x, hx, rfl⟩ := q_rng (n := 99) rfl h3
          simp only [s84, u84_0, u84_1, u84_2, u84_5, u84_8, u84_9, u84_10, u84_13, u84_16, u84_17, u84_20, u84_22, u84_25, u84_27, u84_28, u84_31, u84_34, u84_35, u84_36, u84_39, u84_40, u84_41, u84_44, u84_45, u84_48, u84_51, u84_54, u84_55, u84_58, u84_61, u84_63, u84_65, u84_66, u84_67, u84_69, u84_71, u84_72, u84_73, u84_74, u84_76, ly_kd, ly_al, ly_fv0, ly_fv1, ly_fv2, ly_fv3, ly_fv4, ly_fk, ly_ra, Option.toList, List.cons_append, List.nil_append, q_ski, q_skr, q_sku, if_true, if_false, t_upTo, t_isCell, t_isMourner, t_isKM, t_isUse, t_isSheet, t_ref1, t_ref2, t_ref3, t_ref4, t_ref5, q_b0, q_not, and_self, hn', h1, h2, h3, vi, ci, true_and, hR.2.2.2.2.1 i (by omega)]
          refine hk _ _ (q_hi_up q_hi.rf (by omega)) (fun R2 h4 => ?_)
          have e45 : (43 : Int32) + 4 * nI i + 2 + 0 = nI (45 + 4 * i) := by rw [q_43s]; exact Int32.add_zero _
          simp only [s194, u194_0, u194_1, u194_2, u194_5, u194_8, u194_9, u194_10, u194_11, u194_12, u194_15, u194_18, u194_19, u194_20, u194_21, u194_22, u194_25, u194_28, u194_31, u194_34, u194_37, u194_40, u194_41, u194_42, u194_45, u194_46, u194_47, u194_49, u194_50, u194_51, u194_52, u194_53, u194_54, u194_55, u194_56, u194_57, u194_58, u194_61, ly_kd, ly_al, ly_fv0, ly_fv1, ly_fv2, ly_fv3, ly_fv4, ly_fk, ly_ra, Option.toList, List.cons_append, List.nil_append, q_ski, q_skr, q_sku, if_true, if_false, m_in, m_isCell, m_isMourner, m_isKm, m_isSheet, m_f1, m_f2, m_f3, m_f4, m_f5, q_b0, q_not, and_self, q_wl0, q_wl1, q_wl48, q_wu1, q_wu2, q_wu3, q_wu5, q_wu6, q_wu7, q_wu8, q_wu15, q_wu30, q_wu40, q_wu57, q_wu60, q_wu69, q_wu99, q_wu1584, fa_wide_le, q_up_o (show (84 : Nat) ≠ 79 by decide), m_becomes, hn, h1', h2, h3, e45, vp_in_nI (show 45 + 4 * i < 247 by omega) (by decide), nI_clamp (show 45 + 4 * i < 2 ^ 31 by omega), true_and, q_up_o (show (84 : Nat) ≠ 37 by decide)]
          obtain ⟨a, b⟩ := q_I_yr I (D' := upd (μ 84) (45 + 4 * i) (nI x)) (q_ok_upd ok (by omega) (fun _ => by omega) (fun _ _ => by omega) (fun _ _ => by omega) (fun _ _ => by omega) (fun _ _ => by omega)) ⟨y, (if_neg (by omega)).trans hy, hy2⟩ (q_R_s hR (show i < 8 by omega)) ((congrFun (gc_up_ne (by omega)) 14).trans ((q_I_z I).trans (if_neg (by omega)).symm)) (if_neg (by omega)) (if_neg (by omega)) (fun _ _ => if_neg (by omega)) (fun o a _ _ => gc_up_ne (by omega)) _ q_fr_up (by rw [gc_up_eq, gc_up_ne (by omega)])
          exact h4 _ a b
        · exact (by
      simp only [s84, u84_0, u84_1, u84_2, u84_5, u84_8, u84_9, u84_10, u84_13, u84_16, u84_17, u84_20, u84_22, u84_25, u84_27, u84_28, u84_31, u84_34, u84_35, u84_36, u84_39, u84_40, u84_41, u84_44, u84_45, u84_48, u84_51, u84_54, u84_55, u84_58, u84_61, u84_63, u84_65, u84_66, u84_67, u84_69, u84_71, u84_72, u84_73, u84_74, u84_76, ly_kd, ly_al, ly_fv0, ly_fv1, ly_fv2, ly_fv3, ly_fv4, ly_fk, ly_ra, Option.toList, List.cons_append, List.nil_append, q_ski, q_skr, q_sku, if_true, if_false, t_upTo, t_isCell, t_isMourner, t_isKM, t_isUse, t_isSheet, t_ref1, t_ref2, t_ref3, t_ref4, t_ref5, q_b0, q_not, and_self, hn, hn', h1, h1', h2, h3]
      refine hk _ _ (q_hi_up q_hi.rf (by omega)) (fun R2 hr2 => ?_)
      simp only [s194, u194_0, u194_1, u194_2, u194_5, u194_8, u194_9, u194_10, u194_11, u194_12, u194_15, u194_18, u194_19, u194_20, u194_21, u194_22, u194_25, u194_28, u194_31, u194_34, u194_37, u194_40, u194_41, u194_42, u194_45, u194_46, u194_47, u194_49, u194_50, u194_51, u194_52, u194_53, u194_54, u194_55, u194_56, u194_57, u194_58, u194_61, ly_kd, ly_al, ly_fv0, ly_fv1, ly_fv2, ly_fv3, ly_fv4, ly_fk, ly_ra, Option.toList, List.cons_append, List.nil_append, q_ski, q_skr, q_sku, if_true, if_false, m_in, m_isCell, m_isMourner, m_isKm, m_isSheet, m_f1, m_f2, m_f3, m_f4, m_f5, q_b0, q_not, and_self, q_wl0, q_wl1, q_wl48, q_wu1, q_wu2, q_wu3, q_wu5, q_wu6, q_wu7, q_wu8, q_wu15, q_wu30, q_wu40, q_wu57, q_wu60, q_wu69, q_wu99, q_wu1584, fa_wide_le, q_up_o (show (84 : Nat) ≠ 79 by decide), hn, hn', h1, h1', h2, h3]
      exact q_P_ref I (by omega) q_fx.rf.fy q_fx.rf.fy hr2)
      · have e1 : nI 1 = 1 := rfl
        have n1 : ¬ (1 : Int32) = 0 := by decide
        rw [e1] at hk h2 ⊢
        by_cases h3 : 0 ≤ v ∧ v ≤ 15
        · obtain ⟨x, hx, rfl⟩ := q_rng (n := 15) rfl h3
          simp only [s84, u84_0, u84_1, u84_2, u84_5, u84_8, u84_9, u84_10, u84_13, u84_16, u84_17, u84_20, u84_22, u84_25, u84_27, u84_28, u84_31, u84_34, u84_35, u84_36, u84_39, u84_40, u84_41, u84_44, u84_45, u84_48, u84_51, u84_54, u84_55, u84_58, u84_61, u84_63, u84_65, u84_66, u84_67, u84_69, u84_71, u84_72, u84_73, u84_74, u84_76, ly_kd, ly_al, ly_fv0, ly_fv1, ly_fv2, ly_fv3, ly_fv4, ly_fk, ly_ra, Option.toList, List.cons_append, List.nil_append, q_ski, q_skr, q_sku, if_true, if_false, t_upTo, t_isCell, t_isMourner, t_isKM, t_isUse, t_isSheet, t_ref1, t_ref2, t_ref3, t_ref4, t_ref5, q_b0, q_not, and_self, hn', h1, h2, h3, n1, vi, ci, true_and, hR.2.2.2.2.2.1 i (by omega)]
          refine hk _ _ (q_hi_up q_hi.rf (by omega)) (fun R2 h4 => ?_)
          have e45 : (43 : Int32) + 4 * nI i + 2 + 1 = nI (46 + 4 * i) := by rw [q_43s, nI_1]; congr 1; omega
          simp only [s194, u194_0, u194_1, u194_2, u194_5, u194_8, u194_9, u194_10, u194_11, u194_12, u194_15, u194_18, u194_19, u194_20, u194_21, u194_22, u194_25, u194_28, u194_31, u194_34, u194_37, u194_40, u194_41, u194_42, u194_45, u194_46, u194_47, u194_49, u194_50, u194_51, u194_52, u194_53, u194_54, u194_55, u194_56, u194_57, u194_58, u194_61, ly_kd, ly_al, ly_fv0, ly_fv1, ly_fv2, ly_fv3, ly_fv4, ly_fk, ly_ra, Option.toList, List.cons_append, List.nil_append, q_ski, q_skr, q_sku, if_true, if_false, m_in, m_isCell, m_isMourner, m_isKm, m_isSheet, m_f1, m_f2, m_f3, m_f4, m_f5, q_b0, q_not, and_self, q_wl0, q_wl1, q_wl48, q_wu1, q_wu2, q_wu3, q_wu5, q_wu6, q_wu7, q_wu8, q_wu15, q_wu30, q_wu40, q_wu57, q_wu60, q_wu69, q_wu99, q_wu1584, fa_wide_le, q_up_o (show (84 : Nat) ≠ 79 by decide), m_becomes, hn, h1', h2, h3, n1, e45, vp_in_nI (show 46 + 4 * i < 247 by omega) (by decide), nI_clamp (show 46 + 4 * i < 2 ^ 31 by omega), true_and, q_up_o (show (84 : Nat) ≠ 38 by decide)]
          obtain ⟨a, b⟩ := q_I_yr I (D' := upd (μ 84) (46 + 4 * i) (nI x)) (q_ok_upd ok (by omega) (fun _ => by omega) (fun _ _ => by omega) (fun _ _ => by omega) (fun _ _ => by omega) (fun _ _ => by omega)) ⟨y, (if_neg (by omega)).trans hy, hy2⟩ (q_R_a hR (show i < 8 by omega)) ((congrFun (gc_up_ne (by omega)) 14).trans ((q_I_z I).trans (if_neg (by omega)).symm)) (if_neg (by omega)) (if_neg (by omega)) (fun _ _ => if_neg (by omega)) (fun o a _ _ => gc_up_ne (by omega)) _ q_fr_up (by rw [gc_up_eq, gc_up_ne (by omega)])
          exact h4 _ a b
        · exact (by
      simp only [s84, u84_0, u84_1, u84_2, u84_5, u84_8, u84_9, u84_10, u84_13, u84_16, u84_17, u84_20, u84_22, u84_25, u84_27, u84_28, u84_31, u84_34, u84_35, u84_36, u84_39, u84_40, u84_41, u84_44, u84_45, u84_48, u84_51, u84_54, u84_55, u84_58, u84_61, u84_63, u84_65, u84_66, u84_67, u84_69, u84_71, u84_72, u84_73, u84_74, u84_76, ly_kd, ly_al, ly_fv0, ly_fv1, ly_fv2, ly_fv3, ly_fv4, ly_fk, ly_ra, Option.toList, List.cons_append, List.nil_append, q_ski, q_skr, q_sku, if_true, if_false, t_upTo, t_isCell, t_isMourner, t_isKM, t_isUse, t_isSheet, t_ref1, t_ref2, t_ref3, t_ref4, t_ref5, q_b0, q_not, and_self, hn, hn', h1, h1', h2, h3, n1]
      refine hk _ _ (q_hi_up q_hi.rf (by omega)) (fun R2 hr2 => ?_)
      simp only [s194, u194_0, u194_1, u194_2, u194_5, u194_8, u194_9, u194_10, u194_11, u194_12, u194_15, u194_18, u194_19, u194_20, u194_21, u194_22, u194_25, u194_28, u194_31, u194_34, u194_37, u194_40, u194_41, u194_42, u194_45, u194_46, u194_47, u194_49, u194_50, u194_51, u194_52, u194_53, u194_54, u194_55, u194_56, u194_57, u194_58, u194_61, ly_kd, ly_al, ly_fv0, ly_fv1, ly_fv2, ly_fv3, ly_fv4, ly_fk, ly_ra, Option.toList, List.cons_append, List.nil_append, q_ski, q_skr, q_sku, if_true, if_false, m_in, m_isCell, m_isMourner, m_isKm, m_isSheet, m_f1, m_f2, m_f3, m_f4, m_f5, q_b0, q_not, and_self, q_wl0, q_wl1, q_wl48, q_wu1, q_wu2, q_wu3, q_wu5, q_wu6, q_wu7, q_wu8, q_wu15, q_wu30, q_wu40, q_wu57, q_wu60, q_wu69, q_wu99, q_wu1584, fa_wide_le, q_up_o (show (84 : Nat) ≠ 79 by decide), hn, hn', h1, h1', h2, h3, n1]
      exact q_P_ref I (by omega) q_fx.rf.fy q_fx.rf.fy hr2)
    · exact (by
      simp only [s84, u84_0, u84_1, u84_2, u84_5, u84_8, u84_9, u84_10, u84_13, u84_16, u84_17, u84_20, u84_22, u84_25, u84_27, u84_28, u84_31, u84_34, u84_35, u84_36, u84_39, u84_40, u84_41, u84_44, u84_45, u84_48, u84_51, u84_54, u84_55, u84_58, u84_61, u84_63, u84_65, u84_66, u84_67, u84_69, u84_71, u84_72, u84_73, u84_74, u84_76, ly_kd, ly_al, ly_fv0, ly_fv1, ly_fv2, ly_fv3, ly_fv4, ly_fk, ly_ra, Option.toList, List.cons_append, List.nil_append, q_ski, q_skr, q_sku, if_true, if_false, t_upTo, t_isCell, t_isMourner, t_isKM, t_isUse, t_isSheet, t_ref1, t_ref2, t_ref3, t_ref4, t_ref5, q_b0, q_not, and_self, hn, hn', h1, h1', h2]
      refine hk _ _ (q_hi_up q_hi.rf (by omega)) (fun R2 hr2 => ?_)
      simp only [s194, u194_0, u194_1, u194_2, u194_5, u194_8, u194_9, u194_10, u194_11, u194_12, u194_15, u194_18, u194_19, u194_20, u194_21, u194_22, u194_25, u194_28, u194_31, u194_34, u194_37, u194_40, u194_41, u194_42, u194_45, u194_46, u194_47, u194_49, u194_50, u194_51, u194_52, u194_53, u194_54, u194_55, u194_56, u194_57, u194_58, u194_61, ly_kd, ly_al, ly_fv0, ly_fv1, ly_fv2, ly_fv3, ly_fv4, ly_fk, ly_ra, Option.toList, List.cons_append, List.nil_append, q_ski, q_skr, q_sku, if_true, if_false, m_in, m_isCell, m_isMourner, m_isKm, m_isSheet, m_f1, m_f2, m_f3, m_f4, m_f5, q_b0, q_not, and_self, q_wl0, q_wl1, q_wl48, q_wu1, q_wu2, q_wu3, q_wu5, q_wu6, q_wu7, q_wu8, q_wu15, q_wu30, q_wu40, q_wu57, q_wu60, q_wu69, q_wu99, q_wu1584, fa_wide_le, q_up_o (show (84 : Nat) ≠ 79 by decide), hn, hn', h1, h1', h2]
      exact q_P_ref I (by omega) q_fx.rf.fy q_fx.rf.fy hr2)
  · have h1' : ¬ (0 ≤ k ∧ k ≤ nI n - 1) := fun z => h1 (gm.mpr z)
    exact (by
      simp only [s84, u84_0, u84_1, u84_2, u84_5, u84_8, u84_9, u84_10, u84_13, u84_16, u84_17, u84_20, u84_22, u84_25, u84_27, u84_28, u84_31, u84_34, u84_35, u84_36, u84_39, u84_40, u84_41, u84_44, u84_45, u84_48, u84_51, u84_54, u84_55, u84_58, u84_61, u84_63, u84_65, u84_66, u84_67, u84_69, u84_71, u84_72, u84_73, u84_74, u84_76, ly_kd, ly_al, ly_fv0, ly_fv1, ly_fv2, ly_fv3, ly_fv4, ly_fk, ly_ra, Option.toList, List.cons_append, List.nil_append, q_ski, q_skr, q_sku, if_true, if_false, t_upTo, t_isCell, t_isMourner, t_isKM, t_isUse, t_isSheet, t_ref1, t_ref2, t_ref3, t_ref4, t_ref5, q_b0, q_not, and_self, hn, hn', h1, h1']
      refine hk _ _ (q_hi_up q_hi.rf (by omega)) (fun R2 hr2 => ?_)
      simp only [s194, u194_0, u194_1, u194_2, u194_5, u194_8, u194_9, u194_10, u194_11, u194_12, u194_15, u194_18, u194_19, u194_20, u194_21, u194_22, u194_25, u194_28, u194_31, u194_34, u194_37, u194_40, u194_41, u194_42, u194_45, u194_46, u194_47, u194_49, u194_50, u194_51, u194_52, u194_53, u194_54, u194_55, u194_56, u194_57, u194_58, u194_61, ly_kd, ly_al, ly_fv0, ly_fv1, ly_fv2, ly_fv3, ly_fv4, ly_fk, ly_ra, Option.toList, List.cons_append, List.nil_append, q_ski, q_skr, q_sku, if_true, if_false, m_in, m_isCell, m_isMourner, m_isKm, m_isSheet, m_f1, m_f2, m_f3, m_f4, m_f5, q_b0, q_not, and_self, q_wl0, q_wl1, q_wl48, q_wu1, q_wu2, q_wu3, q_wu5, q_wu6, q_wu7, q_wu8, q_wu15, q_wu30, q_wu40, q_wu57, q_wu60, q_wu69, q_wu99, q_wu1584, fa_wide_le, q_up_o (show (84 : Nat) ≠ 79 by decide), hn, hn', h1, h1']
      exact q_P_ref I (by omega) q_fx.rf.fy q_fx.rf.fy hr2)
theorem p_become {k q : Int32} : q_P 85 195 [.ref 0, .int k, .int q] [.ref 83, .int k, .int q] := by
  intro μ R I hk
  obtain ⟨ok, ⟨y, hy, hy2⟩, hR, hL⟩ := q_c31 I
  obtain ⟨n, hn, hn', hn8⟩ := q_n31 I
  have gm := q_gm (k := k) hn8
  by_cases h1 : 0 ≤ k ∧ k < nI n
  · have h1' := gm.mp h1
    by_cases h2 : 0 ≤ q ∧ q ≤ 69
    · obtain ⟨i, hi, rfl⟩ := q_km hn8 h1
      obtain ⟨q, hq, rfl⟩ := q_rng (n := 69) rfl h2
      have vi : vp_in (nI i) 8 := vp_in_nI (by omega) (by decide)
      have ci : (nI i).toNatClampNeg = i := nI_clamp (by omega)
      have e10 := q_10 (show q < 2 ^ 31 by omega)
      have hw := q_wi (show i < 8 by omega)
      have e43 : (43 : Int32) + 4 * nI i = nI (43 + 4 * i) := q_43
      have e44 : nI (43 + 4 * i) + 1 = nI (44 + 4 * i) := by rw [nI_1]; congr 1; omega
      simp only [s85, u85_0, u85_1, u85_2, u85_5, u85_8, u85_9, u85_12, u85_15, u85_16, u85_17, u85_20, u85_21, u85_22, u85_25, u85_28, u85_29, u85_30, u85_31, u85_32, u85_35, u85_38, u85_39, u85_40, u85_42, u85_43, u85_44, u85_45, u85_48, u85_51, u85_52, u85_53, u85_55, u85_56, u85_57, u85_58, ly_kd, ly_al, ly_fv0, ly_fv1, ly_fv2, ly_fv3, ly_fv4, ly_fk, ly_ra, Option.toList, List.cons_append, List.nil_append, q_ski, q_skr, q_sku, if_true, if_false, t_upTo, t_isCell, t_isMourner, t_isKM, t_isUse, t_isSheet, t_ref1, t_ref2, t_ref3, t_ref4, t_ref5, q_b0, q_not, and_self, hn', h1, h2, vi, ci, e10, show ¬ (10 : Int32) = 0 by decide, not_false_eq_true, true_and, hR.2.2.1 i (by omega)]
      refine hk _ _ (q_hi_up (q_hi_up q_hi.rf (by omega)) (by omega)) (fun R2 h4 => ?_)
      simp only [s195, u195_0, u195_1, u195_2, u195_5, u195_8, u195_9, u195_12, u195_15, u195_16, u195_17, u195_20, u195_21, u195_22, u195_23, u195_24, u195_25, u195_27, u195_28, u195_31, u195_32, u195_34, u195_35, u195_36, u195_37, u195_38, u195_39, u195_41, u195_42, u195_45, ly_kd, ly_al, ly_fv0, ly_fv1, ly_fv2, ly_fv3, ly_fv4, ly_fk, ly_ra, Option.toList, List.cons_append, List.nil_append, q_ski, q_skr, q_sku, if_true, if_false, m_in, m_isCell, m_isMourner, m_isKm, m_isSheet, m_f1, m_f2, m_f3, m_f4, m_f5, q_b0, q_not, and_self, q_wl0, q_wl1, q_wl48, q_wu1, q_wu2, q_wu3, q_wu5, q_wu6, q_wu7, q_wu8, q_wu15, q_wu30, q_wu40, q_wu57, q_wu60, q_wu69, q_wu99, q_wu1584, fa_wide_le, q_up_o (show (84 : Nat) ≠ 79 by decide), m_becomes, m_sets, hn, h1', h2, e43, e44, e10, show ¬ (10 : Int32) = 0 by decide, not_false_eq_true, vp_in_nI (show 43 + 4 * i < 247 by omega) (by decide), nI_clamp (show 43 + 4 * i < 2 ^ 31 by omega), vp_in_nI (show 44 + 4 * i < 247 by omega) (by decide), nI_clamp (show 44 + 4 * i < 2 ^ 31 by omega), true_and, q_up_j (show 43 + 4 * i ≠ 44 + 4 * i by omega), q_up_o (show (84 : Nat) ≠ 35 by decide), q_up_o (show (84 : Nat) ≠ 36 by decide)]
      have o : ∀ j, j ≠ 43 + 4 * i → j ≠ 44 + 4 * i → upd (upd (μ 84) (43 + 4 * i) (nI (q / 10))) (44 + 4 * i) (nI (q % 10)) j = μ 84 j := fun j a b => by unfold upd; rw [if_neg b, if_neg a]
      have okD : q_ok (upd (upd (μ 84) (43 + 4 * i) (nI (q / 10))) (44 + 4 * i) (nI (q % 10))) := by
        refine q_ok_upd (q_ok_upd ok ?_ ?_ ?_ ?_ ?_ ?_) ?_ ?_ ?_ ?_ ?_ ?_
        all_goals first | omega | (intro _; omega) | (intro _ _; omega)
      obtain ⟨a, b⟩ := q_I_yr I okD ⟨y, (o 1 (by omega) (by omega)).trans hy, hy2⟩ (q_R_m (q_R_k hR (show i < 8 by omega)) (show i < 8 by omega)) (by rw [gc_up_ne (by omega), gc_up_ne (by omega)]; exact (q_I_z I).trans (o 2 (by omega) (by omega)).symm) (o 3 (by omega) (by omega)) (o 4 (by omega) (by omega)) (fun j hj => o j (by omega) (by omega)) (fun o a _ _ => by rw [gc_up_ne (by omega), gc_up_ne (by omega)]) (gc_up (gc_up (gc_up (gc_up μ 35 i (nI (q / 10))) 36 i (nI (q % 10))) 84 (44 + 4 * i) (nI (q % 10))) 84 (43 + 4 * i) (nI (q / 10))) (q_fr_up.tr q_fr_up) (by
        rw [gc_up_eq, gc_up_eq, gc_up_ne (by omega), gc_up_ne (by omega)]
        funext j
        unfold upd
        by_cases j0 : j = 43 + 4 * i
        · subst j0
          rw [if_pos rfl, if_neg (by omega), if_pos rfl]
        · rw [if_neg j0, if_neg j0])
      exact h4 _ a b
    · exact (by
      simp only [s85, u85_0, u85_1, u85_2, u85_5, u85_8, u85_9, u85_12, u85_15, u85_16, u85_17, u85_20, u85_21, u85_22, u85_25, u85_28, u85_29, u85_30, u85_31, u85_32, u85_35, u85_38, u85_39, u85_40, u85_42, u85_43, u85_44, u85_45, u85_48, u85_51, u85_52, u85_53, u85_55, u85_56, u85_57, u85_58, ly_kd, ly_al, ly_fv0, ly_fv1, ly_fv2, ly_fv3, ly_fv4, ly_fk, ly_ra, Option.toList, List.cons_append, List.nil_append, q_ski, q_skr, q_sku, if_true, if_false, t_upTo, t_isCell, t_isMourner, t_isKM, t_isUse, t_isSheet, t_ref1, t_ref2, t_ref3, t_ref4, t_ref5, q_b0, q_not, and_self, hn, hn', h1, h1', h2]
      refine hk _ _ (q_hi_up q_hi.rf (by omega)) (fun R2 hr2 => ?_)
      simp only [s195, u195_0, u195_1, u195_2, u195_5, u195_8, u195_9, u195_12, u195_15, u195_16, u195_17, u195_20, u195_21, u195_22, u195_23, u195_24, u195_25, u195_27, u195_28, u195_31, u195_32, u195_34, u195_35, u195_36, u195_37, u195_38, u195_39, u195_41, u195_42, u195_45, ly_kd, ly_al, ly_fv0, ly_fv1, ly_fv2, ly_fv3, ly_fv4, ly_fk, ly_ra, Option.toList, List.cons_append, List.nil_append, q_ski, q_skr, q_sku, if_true, if_false, m_in, m_isCell, m_isMourner, m_isKm, m_isSheet, m_f1, m_f2, m_f3, m_f4, m_f5, q_b0, q_not, and_self, q_wl0, q_wl1, q_wl48, q_wu1, q_wu2, q_wu3, q_wu5, q_wu6, q_wu7, q_wu8, q_wu15, q_wu30, q_wu40, q_wu57, q_wu60, q_wu69, q_wu99, q_wu1584, fa_wide_le, q_up_o (show (84 : Nat) ≠ 79 by decide), hn, hn', h1, h1', h2]
      exact q_P_ref I (by omega) q_fx.rf.fy q_fx.rf.fy hr2)
  · have h1' : ¬ (0 ≤ k ∧ k ≤ nI n - 1) := fun z => h1 (gm.mpr z)
    exact (by
      simp only [s85, u85_0, u85_1, u85_2, u85_5, u85_8, u85_9, u85_12, u85_15, u85_16, u85_17, u85_20, u85_21, u85_22, u85_25, u85_28, u85_29, u85_30, u85_31, u85_32, u85_35, u85_38, u85_39, u85_40, u85_42, u85_43, u85_44, u85_45, u85_48, u85_51, u85_52, u85_53, u85_55, u85_56, u85_57, u85_58, ly_kd, ly_al, ly_fv0, ly_fv1, ly_fv2, ly_fv3, ly_fv4, ly_fk, ly_ra, Option.toList, List.cons_append, List.nil_append, q_ski, q_skr, q_sku, if_true, if_false, t_upTo, t_isCell, t_isMourner, t_isKM, t_isUse, t_isSheet, t_ref1, t_ref2, t_ref3, t_ref4, t_ref5, q_b0, q_not, and_self, hn, hn', h1, h1']
      refine hk _ _ (q_hi_up q_hi.rf (by omega)) (fun R2 hr2 => ?_)
      simp only [s195, u195_0, u195_1, u195_2, u195_5, u195_8, u195_9, u195_12, u195_15, u195_16, u195_17, u195_20, u195_21, u195_22, u195_23, u195_24, u195_25, u195_27, u195_28, u195_31, u195_32, u195_34, u195_35, u195_36, u195_37, u195_38, u195_39, u195_41, u195_42, u195_45, ly_kd, ly_al, ly_fv0, ly_fv1, ly_fv2, ly_fv3, ly_fv4, ly_fk, ly_ra, Option.toList, List.cons_append, List.nil_append, q_ski, q_skr, q_sku, if_true, if_false, m_in, m_isCell, m_isMourner, m_isKm, m_isSheet, m_f1, m_f2, m_f3, m_f4, m_f5, q_b0, q_not, and_self, q_wl0, q_wl1, q_wl48, q_wu1, q_wu2, q_wu3, q_wu5, q_wu6, q_wu7, q_wu8, q_wu15, q_wu30, q_wu40, q_wu57, q_wu60, q_wu69, q_wu99, q_wu1584, fa_wide_le, q_up_o (show (84 : Nat) ≠ 79 by decide), hn, hn', h1, h1']
      exact q_P_ref I (by omega) q_fx.rf.fy q_fx.rf.fy hr2)
theorem p_law {u a b c : Int32} : q_P 91 171 [.ref 0, .int u, .int a, .int b, .int c] [.ref 83, .int u, .int a, .int b, .int c] := by
  intro μ R I hk
  obtain ⟨ok, ⟨y, hy, hy2⟩, hR, hL⟩ := q_c31 I
  by_cases h1 : 0 ≤ u ∧ u ≤ 1
  · simp only [s91, u91_0, u91_1, u91_4, u91_7, u91_8, u91_11, u91_12, u91_13, u91_14, u91_16, u91_19, u91_22, u91_23, u91_24, u91_27, ly_kd, ly_al, ly_fv0, ly_fv1, ly_fv2, ly_fv3, ly_fv4, ly_fk, ly_ra, Option.toList, List.cons_append, List.nil_append, q_ski, q_skr, q_sku, if_true, if_false, t_upTo, t_isCell, t_isMourner, t_isKM, t_isUse, t_isSheet, t_ref1, t_ref2, t_ref3, t_ref4, t_ref5, q_b0, q_not, and_self, h1]
    obtain ⟨z, hz, rfl⟩ := q_rng (n := 1) rfl h1
    refine t_given (u := z) q_K31 (by omega) rfl ok.2.2.2.2.2.2 hL (fun μ1 e1 => ?_)
    simp only [u91_0, u91_1, u91_4, u91_7, u91_8, u91_11, u91_12, u91_13, u91_14, u91_16, u91_19, u91_22, u91_23, u91_24, u91_27, ly_kd, ly_al, ly_fv0, ly_fv1, ly_fv2, ly_fv3, ly_fv4, ly_fk, ly_ra, Option.toList, List.cons_append, List.nil_append, q_ski, q_skr, q_sku, if_true, if_false]
    have f1 : q_fx μ μ1 := fun o ho => e1 o (by unfold q_scr at ho; omega) (by unfold q_scr at ho; omega)
    refine hk _ _ f1.fy.hi (fun R2 h4 => ?_)
    have e84 : μ1 84 = μ 84 := e1 84 (by omega) (by omega)
    simp only [s171, u171_0, u171_1, u171_2, u171_3, u171_4, u171_7, u171_10, u171_11, u171_12, u171_13, u171_14, u171_16, u171_19, u171_22, u171_23, u171_24, u171_27, ly_kd, ly_al, ly_fv0, ly_fv1, ly_fv2, ly_fv3, ly_fv4, ly_fk, ly_ra, Option.toList, List.cons_append, List.nil_append, q_ski, q_skr, q_sku, if_true, if_false, m_in, m_isCell, m_isMourner, m_isKm, m_isSheet, m_f1, m_f2, m_f3, m_f4, m_f5, q_b0, q_not, and_self, q_wl0, q_wl1, q_wl48, q_wu1, q_wu2, q_wu3, q_wu5, q_wu6, q_wu7, q_wu8, q_wu15, q_wu30, q_wu40, q_wu57, q_wu60, q_wu69, q_wu99, q_wu1584, fa_wide_le, q_up_o (show (84 : Nat) ≠ 79 by decide), h1]
    refine m_textGives (u := z) (by omega) rfl (by rw [e84]; exact ok.2.2.2.2.2.2) (fun μ2 e2 => ?_)
    simp only [u171_0, u171_1, u171_2, u171_3, u171_4, u171_7, u171_10, u171_11, u171_12, u171_13, u171_14, u171_16, u171_19, u171_22, u171_23, u171_24, u171_27, ly_kd, ly_al, ly_fv0, ly_fv1, ly_fv2, ly_fv3, ly_fv4, ly_fk, ly_ra, Option.toList, List.cons_append, List.nil_append, q_ski, q_skr, q_sku, if_true, if_false]
    rw [e84]
    have f2 : q_fx μ1 μ2 := fun o ho => e2 o (by unfold q_scr at ho; omega) (by unfold q_scr at ho; omega)
    exact h4 μ2 (q_I_fy I (f1.fy.tr f2.fy)) f2.fy.hi
  · exact (by
      simp only [s91, u91_0, u91_1, u91_4, u91_7, u91_8, u91_11, u91_12, u91_13, u91_14, u91_16, u91_19, u91_22, u91_23, u91_24, u91_27, ly_kd, ly_al, ly_fv0, ly_fv1, ly_fv2, ly_fv3, ly_fv4, ly_fk, ly_ra, Option.toList, List.cons_append, List.nil_append, q_ski, q_skr, q_sku, if_true, if_false, t_upTo, t_isCell, t_isMourner, t_isKM, t_isUse, t_isSheet, t_ref1, t_ref2, t_ref3, t_ref4, t_ref5, q_b0, q_not, and_self, h1]
      refine hk _ _ (q_hi_up q_hi.rf (by omega)) (fun R2 hr2 => ?_)
      simp only [s171, u171_0, u171_1, u171_2, u171_3, u171_4, u171_7, u171_10, u171_11, u171_12, u171_13, u171_14, u171_16, u171_19, u171_22, u171_23, u171_24, u171_27, ly_kd, ly_al, ly_fv0, ly_fv1, ly_fv2, ly_fv3, ly_fv4, ly_fk, ly_ra, Option.toList, List.cons_append, List.nil_append, q_ski, q_skr, q_sku, if_true, if_false, m_in, m_isCell, m_isMourner, m_isKm, m_isSheet, m_f1, m_f2, m_f3, m_f4, m_f5, q_b0, q_not, and_self, q_wl0, q_wl1, q_wl48, q_wu1, q_wu2, q_wu3, q_wu5, q_wu6, q_wu7, q_wu8, q_wu15, q_wu30, q_wu40, q_wu57, q_wu60, q_wu69, q_wu99, q_wu1584, fa_wide_le, q_up_o (show (84 : Nat) ≠ 79 by decide), h1]
      exact q_P_ref I (by omega) q_fx.rf.fy q_fx.rf.fy hr2)
