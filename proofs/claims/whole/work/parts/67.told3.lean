set_option maxHeartbeats 1000000 in
theorem p_sorry {s k w : Int32} : q_P 124 230 [.ref 0, .int s, .int k, .int w] [.ref 83, .int s, .int k, .int w] := by
  intro μ R I hk
  obtain ⟨ok, ⟨y, hy, hy2⟩, hR, hL⟩ := q_c31 I
  obtain ⟨n, hn, hn', hn8⟩ := q_n31 I
  have gm := q_gm (k := k) hn8
  have hsz : ∀ (μ' : gM), μ' 99 = μ 99 → ∀ s, s < 4 → ∃ n, μ' 99 s = nI n ∧ n ≤ 40 := fun μ' e s hs => by
    obtain ⟨-, ⟨n', hn', c2, -⟩, -⟩ := q_i31 I hs
    exact ⟨n', by rw [e, c2], hn'⟩
  simp only [s124, u124_0, u124_1, u124_4, u124_7, u124_8, u124_9, u124_12, u124_15, u124_16, u124_17, u124_20, u124_23, u124_24, u124_25, u124_28, u124_29, u124_30, u124_33, u124_34, u124_35, u124_38, u124_41, u124_42, u124_43, u124_46, u124_47, u124_48, u124_50, u124_51, u124_55, u124_57, u124_60, u124_61, u124_62, u124_63, u124_65, u124_68, u124_69, u124_70, u124_73, u124_74, u124_75, u124_78, u124_81, u124_82, u124_83, u124_86, u124_88, u124_89, u124_92, u124_95, u124_98, u124_99, u124_102, u124_104, u124_107, u124_108, u124_109, u124_112, ly_kd, ly_al, ly_fv0, ly_fv1, ly_fv2, ly_fv3, ly_fv4, ly_fk, ly_ra, Option.toList, List.cons_append, List.nil_append, q_ski, q_skr, q_sku, if_true, if_false, t_isSheet, t_isMourner, t_upTo, t_ref1, q_b0, q_not, hn']
  have ref : ¬ ((0 ≤ s ∧ s ≤ 3) ∧ (0 ≤ k ∧ k < nI n) ∧ 0 ≤ w ∧ w ≤ 1) → R (some (.int (-1000000001))) (gc_up μ 79 1 (μ 79 1 + 1)) := fun hg => by
    refine hk _ _ (q_hi_up q_hi.rf (by omega)) (fun R2 h2 => ?_)
    have e84 : gc_up μ 79 1 (μ 79 1 + 1) 84 = μ 84 := gc_up_ne (by omega)
    refine m_sorry (y := y) (by rw [e84]; exact ok) (by rw [e84]; exact hy) hy2 (hsz _ (gc_up_ne (by omega))) ?_
    rw [e84, hn, if_neg (fun z => hg ⟨z.1, gm.mpr z.2.1, z.2.2⟩)]
    exact q_P_ref I (by omega) q_fx.rf.fy q_fx.rf.fy h2
  by_cases h1 : 0 ≤ s ∧ s ≤ 3
  · by_cases h2 : 0 ≤ k ∧ k < nI n
    · by_cases h5 : 0 ≤ w ∧ w ≤ 1
      · simp only [h1, h2, h5, and_self, if_true]
        have h2' := gm.mp h2
        obtain ⟨i, hi, rfl⟩ := q_km hn8 h2
        obtain ⟨s, hs, rfl⟩ := q_rng (n := 3) rfl h1
        obtain ⟨c1, ⟨z, hz, c2, c3⟩, c4⟩ := q_i31 I (show s < 4 by omega)
        obtain ⟨b1, b2, b3, b4, b5, b6, -⟩ := q_S (show s < 4 by omega)
        have vs : vp_in (nI s) 4 := vp_in_nI (by omega) (by decide)
        have cs : (nI s).toNatClampNeg = s := nI_clamp (by omega)
        rw [u124_34 (q := 24) rfl rfl]
        simp only [vs, cs, true_and, u124_0, u124_1, u124_4, u124_7, u124_8, u124_9, u124_12, u124_15, u124_16, u124_17, u124_20, u124_23, u124_24, u124_25, u124_28, u124_29, u124_30, u124_33, u124_34, u124_35, u124_38, u124_41, u124_42, u124_43, u124_46, u124_47, u124_48, u124_50, u124_51, u124_55, u124_57, u124_60, u124_61, u124_62, u124_63, u124_65, u124_68, u124_69, u124_70, u124_73, u124_74, u124_75, u124_78, u124_81, u124_82, u124_83, u124_86, u124_88, u124_89, u124_92, u124_95, u124_98, u124_99, u124_102, u124_104, u124_107, u124_108, u124_109, u124_112, ly_kd, ly_al, ly_fv0, ly_fv1, ly_fv2, ly_fv3, ly_fv4, ly_fk, ly_ra, Option.toList, List.cons_append, List.nil_append, q_ski, q_skr, q_sku, if_true, if_false, b1, b4, c1, t_ref2]
        by_cases h3 : μ 98 s = 0
        · simp only [h3, if_true]
          refine hk _ _ (q_hi_up q_hi.rf (by omega)) (fun R2 h4 => ?_)
          have eo : ∀ o, o ≠ 79 → gc_up μ 79 2 (μ 79 2 + 1) o = μ o := fun o ho => gc_up_ne ho
          refine m_sorry (y := y) (by rw [eo _ (by omega)]; exact ok) (by rw [eo _ (by omega)]; exact hy) hy2 (hsz _ (eo _ (by omega))) ?_
          rw [eo 84 (by omega), hn, if_pos ⟨h1, h2', h5⟩, eo 98 (by omega), cs, if_pos h3]
          exact q_P_ref I (by omega) q_fx.rf.fy q_fx.rf.fy h4
        · simp only [h3, if_false]
          -- behind the trials
          have fin : ∀ μ1 R2 x, q_g 43 μ μ1 → ((if w = 0 then ∀ μ2, q_f2 μ1 μ2 → R2 (some (.int (nI (q_ct (q_tv (μ 84) (fun j => μ 100 (40 * s + j)) (45 + 4 * i) z) 100)))) μ2 else if q_first (fun v => q_tv (μ 84) (fun j => μ 100 (40 * s + j)) (45 + 4 * i) z v = true) 0 100 = 100 then ∀ μ2, q_f2 μ1 μ2 → R2 (some (.int (-1000000002))) (gc_up μ2 87 2 (μ2 87 2 + 1)) else ∀ μ2, q_f2 μ1 μ2 → R2 (some (.int (nI (q_first (fun v => q_tv (μ 84) (fun j => μ 100 (40 * s + j)) (45 + 4 * i) z v = true) 0 100)))) μ2) → gc_S 100 230 [.ref 83, .int (nI s), .int (nI i), .int w] μ1 R2) ∧ ((if w = 0 then ∀ μ2, q_f2 (gc_up μ1 79 2 x) μ2 → R2 (some (.int (nI (q_ct (q_tv (μ 84) (fun j => μ 100 (40 * s + j)) (45 + 4 * i) z) 100)))) μ2 else if q_first (fun v => q_tv (μ 84) (fun j => μ 100 (40 * s + j)) (45 + 4 * i) z v = true) 0 100 = 100 then ∀ μ2, q_f2 (gc_up μ1 79 2 x) μ2 → R2 (some (.int (-1000000002))) (gc_up μ2 87 2 (μ2 87 2 + 1)) else ∀ μ2, q_f2 (gc_up μ1 79 2 x) μ2 → R2 (some (.int (nI (q_first (fun v => q_tv (μ 84) (fun j => μ 100 (40 * s + j)) (45 + 4 * i) z v = true) 0 100)))) μ2) → gc_S 100 230 [.ref 83, .int (nI s), .int (nI i), .int w] (gc_up μ1 79 2 x) R2) := by
            intro μ1 R2 x g1
            constructor
            · intro hh
              have eo : ∀ o, 50 < o → μ1 o = μ o := fun o ho => g1 o (by omega) (by omega) (by omega)
              refine m_sorry (y := y) (by rw [eo _ (by omega)]; exact ok) (by rw [eo _ (by omega)]; exact hy) hy2 (hsz _ (eo _ (by omega))) ?_
              rw [eo 84 (by omega), hn, if_pos ⟨h1, h2', h5⟩, eo 98 (by omega), cs, if_neg h3, eo 99 (by omega), eo 100 (by omega), c2, nI_clamp (show z < 2 ^ 31 by omega), nI_clamp (show i < 2 ^ 31 by omega)]
              exact hh
            · intro hh
              have eo : ∀ o, 50 < o → o ≠ 79 → gc_up μ1 79 2 x o = μ o := fun o ho h79 => by rw [gc_up_ne h79]; exact g1 o (by omega) (by omega) (by omega)
              refine m_sorry (y := y) (by rw [eo _ (by omega) (by omega)]; exact ok) (by rw [eo _ (by omega) (by omega)]; exact hy) hy2 (hsz _ (eo _ (by omega) (by omega))) ?_
              rw [eo 84 (by omega) (by omega), hn, if_pos ⟨h1, h2', h5⟩, eo 98 (by omega) (by omega), cs, if_neg h3, eo 99 (by omega) (by omega), eo 100 (by omega) (by omega), c2, nI_clamp (show z < 2 ^ 31 by omega), nI_clamp (show i < 2 ^ 31 by omega)]
              exact hh
          generalize hp : q_tv (μ 84) (fun j => μ 100 (40 * s + j)) (45 + 4 * i) z = p at fin
          have main : ∀ m c, c + m = 100 → (w = 0 ∨ q_first (fun v => p v = true) 0 100 = q_first (fun v => p v = true) c m) → ∀ μ1, q_g 43 μ μ1 → gc_W (gc_S (99)) cX11_sorry 11 0 R 53 [.ref 0, .int (nI s), .int (nI i), .int w, .int (if w = 0 then nI (q_ct p c) else 0), .int (nI c)] [] μ1 := by
            intro m
            induction m with
            | zero =>
              intro c hc hf μ1 g1
              obtain rfl : c = 100 := hc
              refine (u124_53).mpr ?_
              by_cases w0 : w = 0
              · simp only [u124_0, u124_1, u124_4, u124_7, u124_8, u124_9, u124_12, u124_15, u124_16, u124_17, u124_20, u124_23, u124_24, u124_25, u124_28, u124_29, u124_30, u124_33, u124_34, u124_35, u124_38, u124_41, u124_42, u124_43, u124_46, u124_47, u124_48, u124_50, u124_51, u124_55, u124_57, u124_60, u124_61, u124_62, u124_63, u124_65, u124_68, u124_69, u124_70, u124_73, u124_74, u124_75, u124_78, u124_81, u124_82, u124_83, u124_86, u124_88, u124_89, u124_92, u124_95, u124_98, u124_99, u124_102, u124_104, u124_107, u124_108, u124_109, u124_112, show (99 : Int32) < nI 100 by decide, if_true, w0]
                refine hk _ _ g1.fx.fy.hi (fun R2 h4 => ?_)
                refine (fin μ1 R2 0 g1).1 ?_
                rw [if_pos w0]
                exact fun μ2 f2 => h4 μ2 (q_I_fy I (g1.fx.fy.tr f2.fx.fy)) f2.fx.fy.hi
              · rcases hf with hf | hf
                · exact absurd hf w0
                have hf : q_first (fun v => p v = true) 0 100 = 100 := hf
                simp only [u124_0, u124_1, u124_4, u124_7, u124_8, u124_9, u124_12, u124_15, u124_16, u124_17, u124_20, u124_23, u124_24, u124_25, u124_28, u124_29, u124_30, u124_33, u124_34, u124_35, u124_38, u124_41, u124_42, u124_43, u124_46, u124_47, u124_48, u124_50, u124_51, u124_55, u124_57, u124_60, u124_61, u124_62, u124_63, u124_65, u124_68, u124_69, u124_70, u124_73, u124_74, u124_75, u124_78, u124_81, u124_82, u124_83, u124_86, u124_88, u124_89, u124_92, u124_95, u124_98, u124_99, u124_102, u124_104, u124_107, u124_108, u124_109, u124_112, show (99 : Int32) < nI 100 by decide, if_true, w0, if_false, ly_kd, ly_al, ly_fv0, ly_fv1, ly_fv2, ly_fv3, ly_fv4, ly_fk, ly_ra, Option.toList, List.cons_append, List.nil_append, q_ski, q_skr, q_sku, if_true, if_false, t_ref2]
                refine hk _ _ (q_hi_up g1.fx.fy.hi (by omega)) (fun R2 h4 => ?_)
                refine (fin μ1 R2 (μ1 79 2 + 1) g1).2 ?_
                rw [if_neg w0, if_pos hf]
                exact fun μ2 f2 => q_P_ref I (by omega) g1.fx.fy f2.fx.fy h4
            | succ m ih =>
              intro c hc hf μ1 g1
              have R1 : q_R 31 (μ 84) μ1 := q_R_mem hR (fun o a b _ => g1 o (by omega) (by omega) (by omega))
              refine (u124_53).mpr ?_
              simp only [u124_0, u124_1, u124_4, u124_7, u124_8, u124_9, u124_12, u124_15, u124_16, u124_17, u124_20, u124_23, u124_24, u124_25, u124_28, u124_29, u124_30, u124_33, u124_34, u124_35, u124_38, u124_41, u124_42, u124_43, u124_46, u124_47, u124_48, u124_50, u124_51, u124_55, u124_57, u124_60, u124_61, u124_62, u124_63, u124_65, u124_68, u124_69, u124_70, u124_73, u124_74, u124_75, u124_78, u124_81, u124_82, u124_83, u124_86, u124_88, u124_89, u124_92, u124_95, u124_98, u124_99, u124_102, u124_104, u124_107, u124_108, u124_109, u124_112, show ¬ (99 : Int32) < nI c from nI_nlt (show c ≤ 99 by omega) (by decide), if_false, ly_kd, ly_al, ly_fv0, ly_fv1, ly_fv2, ly_fv3, ly_fv4, ly_fk, ly_ra, Option.toList, List.cons_append, List.nil_append, q_ski, q_skr, q_sku, if_true, if_false]
              refine t_suppose (what := 3) (who := i) (by omega) (show i < 8 by omega) R1 (fun μ2 g2 R2 => ?_)
              simp only [u124_0, u124_1, u124_4, u124_7, u124_8, u124_9, u124_12, u124_15, u124_16, u124_17, u124_20, u124_23, u124_24, u124_25, u124_28, u124_29, u124_30, u124_33, u124_34, u124_35, u124_38, u124_41, u124_42, u124_43, u124_46, u124_47, u124_48, u124_50, u124_51, u124_55, u124_57, u124_60, u124_61, u124_62, u124_63, u124_65, u124_68, u124_69, u124_70, u124_73, u124_74, u124_75, u124_78, u124_81, u124_82, u124_83, u124_86, u124_88, u124_89, u124_92, u124_95, u124_98, u124_99, u124_102, u124_104, u124_107, u124_108, u124_109, u124_112, ly_kd, ly_al, ly_fv0, ly_fv1, ly_fv2, ly_fv3, ly_fv4, ly_fk, ly_ra, Option.toList, List.cons_append, List.nil_append, q_ski, q_skr, q_sku, if_true, if_false]
              rw [u124_74 (q := 24) rfl rfl]
              simp only [vs, cs, true_and, u124_0, u124_1, u124_4, u124_7, u124_8, u124_9, u124_12, u124_15, u124_16, u124_17, u124_20, u124_23, u124_24, u124_25, u124_28, u124_29, u124_30, u124_33, u124_34, u124_35, u124_38, u124_41, u124_42, u124_43, u124_46, u124_47, u124_48, u124_50, u124_51, u124_55, u124_57, u124_60, u124_61, u124_62, u124_63, u124_65, u124_68, u124_69, u124_70, u124_73, u124_74, u124_75, u124_78, u124_81, u124_82, u124_83, u124_86, u124_88, u124_89, u124_92, u124_95, u124_98, u124_99, u124_102, u124_104, u124_107, u124_108, u124_109, u124_112, ly_kd, ly_al, ly_fv0, ly_fv1, ly_fv2, ly_fv3, ly_fv4, ly_fk, ly_ra, Option.toList, List.cons_append, List.nil_append, q_ski, q_skr, q_sku, if_true, if_false]
              refine t_trial (v := c) (what := 3) (who := i) (n := z) I (by omega) (show i < 8 by omega) (show 1 < 45 + 4 * i ∧ 45 + 4 * i < 75 by omega) (show q_ok (upd (μ 84) (45 + 4 * i) (nI c)) from q_ok_upd ok (by omega) (fun _ => by omega) (fun _ _ => by omega) (fun _ _ => by omega) (fun _ _ => by omega) (fun _ _ => by omega)) hy hy2 (by omega) hz c2 (g1.tr g2) R2 (fun μ3 r g3 hr => ?_)
              have hr : r < 0 ↔ p c = true := by rw [← hp]; exact hr
              have es : q_ct p (c + 1) = q_ct p c + (if p c = true then 1 else 0) := rfl
              have ef : q_first (fun v => p v = true) c (m + 1) = if p c = true then c else q_first (fun v => p v = true) (c + 1) m := rfl
              rw [ef] at hf
              by_cases e : p c = true
              · rw [if_pos e] at hf es
                simp only [u124_0, u124_1, u124_4, u124_7, u124_8, u124_9, u124_12, u124_15, u124_16, u124_17, u124_20, u124_23, u124_24, u124_25, u124_28, u124_29, u124_30, u124_33, u124_34, u124_35, u124_38, u124_41, u124_42, u124_43, u124_46, u124_47, u124_48, u124_50, u124_51, u124_55, u124_57, u124_60, u124_61, u124_62, u124_63, u124_65, u124_68, u124_69, u124_70, u124_73, u124_74, u124_75, u124_78, u124_81, u124_82, u124_83, u124_86, u124_88, u124_89, u124_92, u124_95, u124_98, u124_99, u124_102, u124_104, u124_107, u124_108, u124_109, u124_112, Int32.not_le.mpr (hr.mpr e), if_false, ly_kd, ly_al, ly_fv0, ly_fv1, ly_fv2, ly_fv3, ly_fv4, ly_fk, ly_ra, Option.toList, List.cons_append, List.nil_append, q_ski, q_skr, q_sku, if_true, if_false]
                by_cases w0 : w = 0
                · have nx := ih (c + 1) (by omega) (Or.inl w0) μ3 g3
                  rw [if_pos w0, es] at nx
                  have w1 : ¬ w = 1 := by rw [w0]; decide
                  simp only [w1, if_false, u124_0, u124_1, u124_4, u124_7, u124_8, u124_9, u124_12, u124_15, u124_16, u124_17, u124_20, u124_23, u124_24, u124_25, u124_28, u124_29, u124_30, u124_33, u124_34, u124_35, u124_38, u124_41, u124_42, u124_43, u124_46, u124_47, u124_48, u124_50, u124_51, u124_55, u124_57, u124_60, u124_61, u124_62, u124_63, u124_65, u124_68, u124_69, u124_70, u124_73, u124_74, u124_75, u124_78, u124_81, u124_82, u124_83, u124_86, u124_88, u124_89, u124_92, u124_95, u124_98, u124_99, u124_102, u124_104, u124_107, u124_108, u124_109, u124_112, ly_kd, ly_al, ly_fv0, ly_fv1, ly_fv2, ly_fv3, ly_fv4, ly_fk, ly_ra, Option.toList, List.cons_append, List.nil_append, q_ski, q_skr, q_sku, if_true, if_false, nI_1]
                  rw [if_pos w0, nI_1]
                  exact nx
                · rcases hf with hf | hf
                  · exact absurd hf w0
                  have w1 : w = 1 := by
                    obtain ⟨j, hj, rfl⟩ := q_rng (n := 1) rfl h5
                    rcases (show j = 0 ∨ j = 1 by omega) with rfl | rfl
                    · exact absurd rfl w0
                    · rfl
                  simp only [w1, if_true, u124_0, u124_1, u124_4, u124_7, u124_8, u124_9, u124_12, u124_15, u124_16, u124_17, u124_20, u124_23, u124_24, u124_25, u124_28, u124_29, u124_30, u124_33, u124_34, u124_35, u124_38, u124_41, u124_42, u124_43, u124_46, u124_47, u124_48, u124_50, u124_51, u124_55, u124_57, u124_60, u124_61, u124_62, u124_63, u124_65, u124_68, u124_69, u124_70, u124_73, u124_74, u124_75, u124_78, u124_81, u124_82, u124_83, u124_86, u124_88, u124_89, u124_92, u124_95, u124_98, u124_99, u124_102, u124_104, u124_107, u124_108, u124_109, u124_112, ly_kd, ly_al, ly_fv0, ly_fv1, ly_fv2, ly_fv3, ly_fv4, ly_fk, ly_ra, Option.toList, List.cons_append, List.nil_append, q_ski, q_skr, q_sku, if_true, if_false]
                  refine hk _ _ g3.fx.fy.hi (fun R2 h4 => ?_)
                  have := (fin μ3 R2 0 g3).1
                  rw [if_neg w0, hf, if_neg (by omega)] at this
                  exact this (fun μ4 f4 => h4 μ4 (q_I_fy I (g3.fx.fy.tr f4.fx.fy)) f4.fx.fy.hi)
              · rw [if_neg e] at hf es
                have nx := ih (c + 1) (by omega) hf μ3 g3
                rw [es] at nx
                simp only [u124_0, u124_1, u124_4, u124_7, u124_8, u124_9, u124_12, u124_15, u124_16, u124_17, u124_20, u124_23, u124_24, u124_25, u124_28, u124_29, u124_30, u124_33, u124_34, u124_35, u124_38, u124_41, u124_42, u124_43, u124_46, u124_47, u124_48, u124_50, u124_51, u124_55, u124_57, u124_60, u124_61, u124_62, u124_63, u124_65, u124_68, u124_69, u124_70, u124_73, u124_74, u124_75, u124_78, u124_81, u124_82, u124_83, u124_86, u124_88, u124_89, u124_92, u124_95, u124_98, u124_99, u124_102, u124_104, u124_107, u124_108, u124_109, u124_112, Int32.not_lt.mp (fun z => e (hr.mp z)), if_true, ly_kd, ly_al, ly_fv0, ly_fv1, ly_fv2, ly_fv3, ly_fv4, ly_fk, ly_ra, Option.toList, List.cons_append, List.nil_append, q_ski, q_skr, q_sku, if_true, if_false, nI_1]
                exact nx
          have st := main 100 0 rfl (Or.inr rfl) μ q_g.rf
          have e0 : (if w = 0 then nI (q_ct p 0) else 0) = 0 := by split <;> rfl
          rw [e0] at st
          exact st
      · simp only [h1, h2, h5, and_self, if_true, if_false]
        exact ref (fun z => h5 z.2.2)
    · simp only [h1, h2, and_self, if_true, if_false]
      exact ref (fun z => h2 z.2.1)
  · simp only [h1, if_false]
    exact ref (fun z => h1 z.1)
