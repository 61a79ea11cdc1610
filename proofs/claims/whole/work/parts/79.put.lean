theorem t_low {d : Nat} {R : gR} {μ : gM} {v b : Int32} : gc_S (d + 1) 130 [.int v, .int b] μ R ↔ R (some (.int (if b = 8 then v.toInt8.toInt32 else if b = 16 then v.toInt16.toInt32 else v))) μ := by
  simp only [s130, u130_0, u130_1, u130_28, u130_29, u130_30, u130_31, u130_32, u130_33, u130_34, u130_35]
  by_cases h8 : b = 8
  · simp only [h8, if_true]
  · by_cases h16 : b = 16
    · simp only [h16, if_true, show ¬ (16 : Int32) = 8 by decide, if_false]
    · simp only [h8, h16, if_false]
theorem p_put {s i v : Int32} : q_P 131 241 [.ref 0, .int s, .int i, .int v] [.ref 83, .int s, .int i, .int v] := by
  intro μ R I hk
  by_cases h1 : 0 ≤ s ∧ s ≤ 3
  · obtain ⟨k, hk3, rfl⟩ := q_rng (n := 3) rfl h1
    have hk4 : k < 4 := by omega
    have vs : vp_in (nI k) 4 := vp_in_nI hk4 (by decide)
    have cs : (nI k).toNatClampNeg = k := nI_clamp (by omega)
    obtain ⟨b1, b2, b3, b4, b5, b6, b7, b8⟩ := q_S hk4
    obtain ⟨c1, ⟨z, hz, c2, c3⟩, c4⟩ := q_i31 I hk4
    have hb := (I.2.2.1 k hk4).2.1
    have gm := q_gn (k := i) (n := z) (by omega)
    simp only [s131, u131_0, u131_1, u131_4, u131_7, u131_8, u131_9, u131_12, u131_13, u131_14, u131_17, u131_18, u131_19, u131_21, u131_23, u131_26, u131_29, u131_30, u131_31, u131_34, u131_35, u131_37, u131_38, u131_41, u131_44, u131_45, u131_46, u131_49, u131_50, u131_52, u131_55, u131_56, u131_57, u131_59, u131_62, u131_65, u131_66, u131_67, ly_kd, ly_al, ly_fv0, ly_fv1, ly_fv2, ly_fv3, ly_fv4, ly_fk, ly_ra, Option.toList, List.cons_append, List.nil_append, q_ski, q_skr, q_sku, if_true, if_false, t_upTo, t_isCell, t_isMourner, t_isKM, t_isUse, t_isSheet, t_ref1, t_ref2, t_ref3, t_ref4, t_ref5, q_b0, q_not, and_self, h1]
    rw [u131_18 (q := 24) rfl rfl]
    simp only [u131_0, u131_1, u131_4, u131_7, u131_8, u131_9, u131_12, u131_13, u131_14, u131_17, u131_18, u131_19, u131_21, u131_23, u131_26, u131_29, u131_30, u131_31, u131_34, u131_35, u131_37, u131_38, u131_41, u131_44, u131_45, u131_46, u131_49, u131_50, u131_52, u131_55, u131_56, u131_57, u131_59, u131_62, u131_65, u131_66, u131_67, ly_kd, ly_al, ly_fv0, ly_fv1, ly_fv2, ly_fv3, ly_fv4, ly_fk, ly_ra, Option.toList, List.cons_append, List.nil_append, q_ski, q_skr, q_sku, if_true, if_false, t_upTo, t_isCell, t_isMourner, t_isKM, t_isUse, t_isSheet, t_ref1, t_ref2, t_ref3, t_ref4, t_ref5, q_b0, q_not, and_self, vs, cs, true_and, b1, b2, b4, b5, b6, c1, t_has b1 b3, c3]
    have f98 : ∀ x y, gc_up μ 79 x y 98 k = μ 98 k := fun x y => by rw [gc_up_ne (by omega)]
    have f99 : ∀ x y, gc_up μ 79 x y 99 k = nI z := fun x y => by rw [gc_up_ne (by omega), c2]
    by_cases b0 : μ 98 k = 0
    · simp only [b0, if_true]
      refine hk _ _ (q_hi_up q_hi.rf (by omega)) (fun R2 hr2 => ?_)
      simp only [s241, u241_0, u241_1, u241_4, u241_7, u241_8, u241_9, u241_12, u241_13, u241_14, u241_17, u241_18, u241_19, u241_22, u241_23, u241_24, u241_27, u241_28, u241_29, u241_30, u241_31, u241_32, u241_35, u241_36, u241_37, u241_38, u241_39, u241_40, u241_43, u241_46, u241_47, u241_48, u241_51, u241_52, u241_53, u241_56, u241_58, u241_59, u241_60, u241_61, u241_62, u241_63, u241_66, u241_67, u241_68, u241_70, u241_73, u241_74, u241_75, u241_78, u241_79, u241_82, u241_83, u241_84, u241_86, u241_89, u241_90, u241_91, u241_94, u241_95, u241_96, u241_97, ly_kd, ly_al, ly_fv0, ly_fv1, ly_fv2, ly_fv3, ly_fv4, ly_fk, ly_ra, Option.toList, List.cons_append, List.nil_append, q_ski, q_skr, q_sku, if_true, if_false, m_in, m_isCell, m_isMourner, m_isKm, m_isSheet, m_f1, m_f2, m_f3, m_f4, m_f5, q_b0, q_not, and_self, q_wl0, q_wl1, q_wl48, q_wu1, q_wu2, q_wu3, q_wu5, q_wu6, q_wu7, q_wu8, q_wu15, q_wu30, q_wu40, q_wu57, q_wu60, q_wu69, q_wu99, q_wu1584, fa_wide_le, q_up_o (show (84 : Nat) ≠ 79 by decide), h1, vs, cs, true_and, f98, b0]
      exact q_P_ref I (by omega) q_fx.rf.fy q_fx.rf.fy hr2
    · simp only [b0, if_false]
      by_cases h2 : 0 ≤ i ∧ i < nI z
      · have h2' := gm.mp h2
        obtain ⟨j, hj, rfl⟩ := q_kn (by omega) h2
        have vj : vp_in (nI j) 40 := vp_in_nI (by omega) (by decide)
        have cj : (nI j).toNatClampNeg = j := nI_clamp (by omega)
        simp only [h2, and_self, if_true, t_low, u131_0, u131_1, u131_4, u131_7, u131_8, u131_9, u131_12, u131_13, u131_14, u131_17, u131_18, u131_19, u131_21, u131_23, u131_26, u131_29, u131_30, u131_31, u131_34, u131_35, u131_37, u131_38, u131_41, u131_44, u131_45, u131_46, u131_49, u131_50, u131_52, u131_55, u131_56, u131_57, u131_59, u131_62, u131_65, u131_66, u131_67, ly_kd, ly_al, ly_fv0, ly_fv1, ly_fv2, ly_fv3, ly_fv4, ly_fk, ly_ra, Option.toList, List.cons_append, List.nil_append, q_ski, q_skr, q_sku, if_true, if_false, b1, b2, b5, b6, vj, cj, true_and]
        generalize hx : (if μ 98 k = 8 then v.toInt8.toInt32 else if μ 98 k = 16 then v.toInt16.toInt32 else v) = x
        refine hk _ _ (fun o ho => gc_up_ne (by omega)) (fun R2 hr2 => ?_)
        have g98 : gc_up μ (69 + 2 * k) j x 98 k = μ 98 k := by rw [gc_up_ne (by omega)]
        have g99 : gc_up μ (69 + 2 * k) j x 99 k = nI z := by rw [gc_up_ne (by omega), c2]
        have fin : R2 (some (.int 1)) (gc_up (gc_up μ (69 + 2 * k) j x) 100 (40 * k + j) x) := by
          refine hr2 _ (q_I_sh I (fun o a b c d e => by rw [gc_up_ne e, gc_up_ne (by omega)]) (fun y hy => ?_)) (fun o ho => gc_up_ne (by omega))
          have S := I.2.2.1 y hy
          rw [gc_up_ne (show 68 + 2 * y ≠ 100 by omega), gc_up_ne (show 68 + 2 * y ≠ 69 + 2 * k by omega), gc_up_ne (show 98 ≠ 100 by omega), gc_up_ne (show 98 ≠ 69 + 2 * k by omega), gc_up_ne (show 99 ≠ 100 by omega), gc_up_ne (show 99 ≠ 69 + 2 * k by omega)]
          refine ⟨S.1, S.2.1, S.2.2.1, fun q hq => ?_⟩
          rw [gc_up_ne (show 69 + 2 * y ≠ 100 by omega)]
          by_cases e : y = k ∧ q = j
          · obtain ⟨rfl, rfl⟩ := e
            rw [q_up_same, q_up_same]
          · rw [q_up_j (show 40 * y + q ≠ 40 * k + j by omega), gc_up_ne (show 100 ≠ 69 + 2 * k by omega)]
            by_cases e2 : y = k
            · subst e2
              rw [q_up_j (fun z => e ⟨rfl, z⟩)]; exact S.2.2.2 q hq
            · rw [gc_up_ne (show 69 + 2 * y ≠ 69 + 2 * k by omega)]; exact S.2.2.2 q hq
        by_cases e8 : μ 98 k = 8
        · rw [if_pos e8] at hx
          simp only [s241, u241_0, u241_1, u241_4, u241_7, u241_8, u241_9, u241_12, u241_13, u241_14, u241_17, u241_18, u241_19, u241_22, u241_23, u241_24, u241_27, u241_28, u241_29, u241_30, u241_31, u241_32, u241_35, u241_36, u241_37, u241_38, u241_39, u241_40, u241_43, u241_46, u241_47, u241_48, u241_51, u241_52, u241_53, u241_56, u241_58, u241_59, u241_60, u241_61, u241_62, u241_63, u241_66, u241_67, u241_68, u241_70, u241_73, u241_74, u241_75, u241_78, u241_79, u241_82, u241_83, u241_84, u241_86, u241_89, u241_90, u241_91, u241_94, u241_95, u241_96, u241_97, ly_kd, ly_al, ly_fv0, ly_fv1, ly_fv2, ly_fv3, ly_fv4, ly_fk, ly_ra, Option.toList, List.cons_append, List.nil_append, q_ski, q_skr, q_sku, if_true, if_false, m_isSheet, m_in, q_b0, q_not, and_self, q_wl0, fa_wide_le, h1, vs, cs, true_and, g98, g99, b0, h2', e8, q_40, show ¬ (8 : Int32) = 0 by decide, vp_in_nI (show 40 * k + j < 160 by omega) (by decide), nI_clamp (show 40 * k + j < 2 ^ 31 by omega), hx]
          exact fin
        · by_cases e16 : μ 98 k = 16
          · rw [if_neg e8, if_pos e16] at hx
            simp only [s241, u241_0, u241_1, u241_4, u241_7, u241_8, u241_9, u241_12, u241_13, u241_14, u241_17, u241_18, u241_19, u241_22, u241_23, u241_24, u241_27, u241_28, u241_29, u241_30, u241_31, u241_32, u241_35, u241_36, u241_37, u241_38, u241_39, u241_40, u241_43, u241_46, u241_47, u241_48, u241_51, u241_52, u241_53, u241_56, u241_58, u241_59, u241_60, u241_61, u241_62, u241_63, u241_66, u241_67, u241_68, u241_70, u241_73, u241_74, u241_75, u241_78, u241_79, u241_82, u241_83, u241_84, u241_86, u241_89, u241_90, u241_91, u241_94, u241_95, u241_96, u241_97, ly_kd, ly_al, ly_fv0, ly_fv1, ly_fv2, ly_fv3, ly_fv4, ly_fk, ly_ra, Option.toList, List.cons_append, List.nil_append, q_ski, q_skr, q_sku, if_true, if_false, m_isSheet, m_in, q_b0, q_not, and_self, q_wl0, fa_wide_le, h1, vs, cs, true_and, g98, g99, b0, h2', e16, q_40, show ¬ (16 : Int32) = 0 by decide, show ¬ (16 : Int32) = 8 by decide, vp_in_nI (show 40 * k + j < 160 by omega) (by decide), nI_clamp (show 40 * k + j < 2 ^ 31 by omega), hx]
            exact fin
          · rw [if_neg e8, if_neg e16] at hx
            simp only [s241, u241_0, u241_1, u241_4, u241_7, u241_8, u241_9, u241_12, u241_13, u241_14, u241_17, u241_18, u241_19, u241_22, u241_23, u241_24, u241_27, u241_28, u241_29, u241_30, u241_31, u241_32, u241_35, u241_36, u241_37, u241_38, u241_39, u241_40, u241_43, u241_46, u241_47, u241_48, u241_51, u241_52, u241_53, u241_56, u241_58, u241_59, u241_60, u241_61, u241_62, u241_63, u241_66, u241_67, u241_68, u241_70, u241_73, u241_74, u241_75, u241_78, u241_79, u241_82, u241_83, u241_84, u241_86, u241_89, u241_90, u241_91, u241_94, u241_95, u241_96, u241_97, ly_kd, ly_al, ly_fv0, ly_fv1, ly_fv2, ly_fv3, ly_fv4, ly_fk, ly_ra, Option.toList, List.cons_append, List.nil_append, q_ski, q_skr, q_sku, if_true, if_false, m_isSheet, m_in, q_b0, q_not, and_self, q_wl0, fa_wide_le, h1, vs, cs, true_and, g98, g99, b0, h2', e8, e16, q_40, vp_in_nI (show 40 * k + j < 160 by omega) (by decide), nI_clamp (show 40 * k + j < 2 ^ 31 by omega), hx]
            exact fin
      · have h2' : ¬ (0 ≤ i ∧ i ≤ nI z - 1) := fun y => h2 (gm.mpr y)
        simp only [h2, if_false]
        refine hk _ _ (q_hi_up q_hi.rf (by omega)) (fun R2 hr2 => ?_)
        simp only [s241, u241_0, u241_1, u241_4, u241_7, u241_8, u241_9, u241_12, u241_13, u241_14, u241_17, u241_18, u241_19, u241_22, u241_23, u241_24, u241_27, u241_28, u241_29, u241_30, u241_31, u241_32, u241_35, u241_36, u241_37, u241_38, u241_39, u241_40, u241_43, u241_46, u241_47, u241_48, u241_51, u241_52, u241_53, u241_56, u241_58, u241_59, u241_60, u241_61, u241_62, u241_63, u241_66, u241_67, u241_68, u241_70, u241_73, u241_74, u241_75, u241_78, u241_79, u241_82, u241_83, u241_84, u241_86, u241_89, u241_90, u241_91, u241_94, u241_95, u241_96, u241_97, ly_kd, ly_al, ly_fv0, ly_fv1, ly_fv2, ly_fv3, ly_fv4, ly_fk, ly_ra, Option.toList, List.cons_append, List.nil_append, q_ski, q_skr, q_sku, if_true, if_false, m_in, m_isCell, m_isMourner, m_isKm, m_isSheet, m_f1, m_f2, m_f3, m_f4, m_f5, q_b0, q_not, and_self, q_wl0, q_wl1, q_wl48, q_wu1, q_wu2, q_wu3, q_wu5, q_wu6, q_wu7, q_wu8, q_wu15, q_wu30, q_wu40, q_wu57, q_wu60, q_wu69, q_wu99, q_wu1584, fa_wide_le, q_up_o (show (84 : Nat) ≠ 79 by decide), fa_wide_le, h1, vs, cs, true_and, f98, f99, b0, h2']
        exact q_P_ref I (by omega) q_fx.rf.fy q_fx.rf.fy hr2
  · exact (by
      simp only [s131, u131_0, u131_1, u131_4, u131_7, u131_8, u131_9, u131_12, u131_13, u131_14, u131_17, u131_18, u131_19, u131_21, u131_23, u131_26, u131_29, u131_30, u131_31, u131_34, u131_35, u131_37, u131_38, u131_41, u131_44, u131_45, u131_46, u131_49, u131_50, u131_52, u131_55, u131_56, u131_57, u131_59, u131_62, u131_65, u131_66, u131_67, ly_kd, ly_al, ly_fv0, ly_fv1, ly_fv2, ly_fv3, ly_fv4, ly_fk, ly_ra, Option.toList, List.cons_append, List.nil_append, q_ski, q_skr, q_sku, if_true, if_false, t_upTo, t_isCell, t_isMourner, t_isKM, t_isUse, t_isSheet, t_ref1, t_ref2, t_ref3, t_ref4, t_ref5, q_b0, q_not, and_self, h1]
      refine hk _ _ (q_hi_up q_hi.rf (by omega)) (fun R2 hr2 => ?_)
      simp only [s241, u241_0, u241_1, u241_4, u241_7, u241_8, u241_9, u241_12, u241_13, u241_14, u241_17, u241_18, u241_19, u241_22, u241_23, u241_24, u241_27, u241_28, u241_29, u241_30, u241_31, u241_32, u241_35, u241_36, u241_37, u241_38, u241_39, u241_40, u241_43, u241_46, u241_47, u241_48, u241_51, u241_52, u241_53, u241_56, u241_58, u241_59, u241_60, u241_61, u241_62, u241_63, u241_66, u241_67, u241_68, u241_70, u241_73, u241_74, u241_75, u241_78, u241_79, u241_82, u241_83, u241_84, u241_86, u241_89, u241_90, u241_91, u241_94, u241_95, u241_96, u241_97, ly_kd, ly_al, ly_fv0, ly_fv1, ly_fv2, ly_fv3, ly_fv4, ly_fk, ly_ra, Option.toList, List.cons_append, List.nil_append, q_ski, q_skr, q_sku, if_true, if_false, m_in, m_isCell, m_isMourner, m_isKm, m_isSheet, m_f1, m_f2, m_f3, m_f4, m_f5, q_b0, q_not, and_self, q_wl0, q_wl1, q_wl48, q_wu1, q_wu2, q_wu3, q_wu5, q_wu6, q_wu7, q_wu8, q_wu15, q_wu30, q_wu40, q_wu57, q_wu60, q_wu69, q_wu99, q_wu1584, fa_wide_le, q_up_o (show (84 : Nat) ≠ 79 by decide), h1]
      exact q_P_ref I (by omega) q_fx.rf.fy q_fx.rf.fy hr2)
