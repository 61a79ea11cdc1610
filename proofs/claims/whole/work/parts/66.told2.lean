/-! pairs: which, how sad, odds, check -/
theorem q_i31 {μ : gM} (h : q_I μ) {s : Nat} (hs : s < 4) : μ (68 + 2 * s) 2 = μ 98 s ∧ (∃ n, n ≤ 40 ∧ μ 99 s = nI n ∧ μ (68 + 2 * s) 1 = nI n) ∧ ∀ j, j < 40 → μ (69 + 2 * s) j = μ 100 (40 * s + j) := ⟨(h.2.2.1 s hs).1, (h.2.2.1 s hs).2.2.1, (h.2.2.1 s hs).2.2.2⟩
/-- the sheets' rows -/
theorem q_S {s : Nat} (hs : s < 4) : gc_kd (68 + 2 * s) = 7 ∧ (∀ μ, gc_fv (68 + 2 * s) 0 μ = .ref (69 + 2 * s)) ∧ (∀ μ, gc_fv (68 + 2 * s) 1 μ = .int (μ (68 + 2 * s) 1)) ∧ (∀ μ, gc_fv (68 + 2 * s) 2 μ = .int (μ (68 + 2 * s) 2)) ∧ gc_kd (69 + 2 * s) = 20 ∧ gc_al (69 + 2 * s) = 40 ∧ gc_fk (68 + 2 * s) 1 = 0 ∧ gc_fk (68 + 2 * s) 2 = 0 := by
  rcases (show s = 0 ∨ s = 1 ∨ s = 2 ∨ s = 3 by omega) with rfl | rfl | rfl | rfl
  · exact ⟨rfl, fun _ => rfl, fun _ => rfl, fun _ => rfl, rfl, rfl, rfl, rfl⟩
  · exact ⟨rfl, fun _ => rfl, fun _ => rfl, fun _ => rfl, rfl, rfl, rfl, rfl⟩
  · exact ⟨rfl, fun _ => rfl, fun _ => rfl, fun _ => rfl, rfl, rfl, rfl, rfl⟩
  · exact ⟨rfl, fun _ => rfl, fun _ => rfl, fun _ => rfl, rfl, rfl, rfl, rfl⟩
theorem q_unt_cong {D f g : Nat → Int32} : ∀ k c, (∀ j, j < c + k → f j = g j) → q_unt D f c k = q_unt D g c k
  | 0, _, _ => rfl
  | k + 1, c, h => by
    unfold q_unt
    rw [h c (by omega), q_unt_cong k (c + 1) (fun j hj => h j (by omega))]
/-- what is checked: one trial -/
theorem t_trial {d : Nat} {R : gR} {μ μ1 : gM} {s n y what who v : Nat} (I : q_I μ) (hw : what ≤ 3) (hwho : if what = 1 then who < 6 else who < 8) (hpl : 1 < q_pl what who ∧ q_pl what who < 75) (hok : q_ok (upd (μ 84) (q_pl what who) (nI v))) (hy : μ 84 1 = nI y) (hy2 : y ≤ 10000) (hs : s < 4) (hn : n ≤ 40) (hlen : μ 99 s = nI n) (g1 : q_g 43 μ μ1) (R1 : q_R 43 (upd (μ 84) (q_pl what who) (nI v)) μ1) (h : ∀ μ' r, q_g 43 μ μ' → (r < 0 ↔ q_tv (μ 84) (fun j => μ 100 (40 * s + j)) (q_pl what who) n v = true) → R (some (.int r)) μ') : gc_S (d + 6) 122 [.ref 0, .ref (68 + 2 * s)] μ1 R := by
  obtain ⟨b1, b2, b3, b4, b5, b6, -⟩ := q_S hs
  obtain ⟨c1, ⟨n', hn', c2, c3⟩, c4⟩ := q_i31 I hs
  obtain ⟨ok, -, -, hL⟩ := q_c31 I
  have e : nI n' = nI n := by rw [← c2, hlen]
  rw [e] at c3
  have es : 68 + 2 * s + 1 = 69 + 2 * s := by omega
  refine t_firstUntrue (f := fun j => μ 100 (40 * s + j)) (y := y) (n := n) hok ((if_neg (by omega)).trans hy) (by omega) b1 (by rw [es]; exact b2) b3 (by rw [es]; exact b5) (by rw [es, b6]; omega) (by rw [es, b6]; omega) (by omega) (by omega) c3 (fun j hj => by rw [es]; exact c4 j (by omega)) (q_L_pl hL hpl.2) g1 R1 (fun μ2 g2 => h μ2 _ g2 ?_)
  unfold q_tv
  by_cases e : q_unt (upd (μ 84) (q_pl what who) (nI v)) (fun j => μ 100 (40 * s + j)) 0 n = n
  · rw [if_pos e, decide_eq_true e]
    exact ⟨fun _ => rfl, fun _ => by decide⟩
  · have hle := q_unt_le (upd (μ 84) (q_pl what who) (nI v)) (fun j => μ 100 (40 * s + j)) n 0
    rw [if_neg e, decide_eq_false e]
    exact ⟨fun z => absurd z (nI_pos (by omega)), fun z => by cases z⟩
set_option maxHeartbeats 1000000 in
theorem p_which {s k : Int32} : q_P 123 229 [.ref 0, .int s, .int k] [.ref 83, .int s, .int k] := by
  intro μ R I hk
  obtain ⟨ok, ⟨y, hy, hy2⟩, hR, hL⟩ := q_c31 I
  obtain ⟨n, hn, hn', hn8⟩ := q_n31 I
  have gm := q_gm (k := k) hn8
  have hsz : ∀ (μ' : gM), μ' 99 = μ 99 → ∀ s, s < 4 → ∃ n, μ' 99 s = nI n ∧ n ≤ 40 := fun μ' e s hs => by
    obtain ⟨-, ⟨n', hn', c2, -⟩, -⟩ := q_i31 I hs
    exact ⟨n', by rw [e, c2], hn'⟩
  simp only [s123, u123_0, u123_1, u123_4, u123_7, u123_8, u123_9, u123_12, u123_15, u123_16, u123_17, u123_20, u123_21, u123_22, u123_25, u123_26, u123_27, u123_30, u123_33, u123_34, u123_35, u123_38, u123_39, u123_40, u123_41, u123_42, u123_46, u123_48, u123_51, u123_52, u123_53, u123_54, u123_56, u123_59, u123_60, u123_61, u123_64, u123_65, u123_66, u123_69, u123_72, u123_73, u123_74, u123_76, u123_77, u123_78, u123_79, u123_82, u123_85, u123_86, ly_kd, ly_al, ly_fv0, ly_fv1, ly_fv2, ly_fv3, ly_fv4, ly_fk, ly_ra, Option.toList, List.cons_append, List.nil_append, q_ski, q_skr, q_sku, if_true, if_false, t_isSheet, t_isMourner, t_ref1, q_b0, q_not, hn']
  have ref : ¬ ((0 ≤ s ∧ s ≤ 3) ∧ 0 ≤ k ∧ k < nI n) → R (some (.int (-1000000001))) (gc_up μ 79 1 (μ 79 1 + 1)) := fun hg => by
    refine hk _ _ (q_hi_up q_hi.rf (by omega)) (fun R2 h2 => ?_)
    have e84 : gc_up μ 79 1 (μ 79 1 + 1) 84 = μ 84 := gc_up_ne (by omega)
    refine m_which (y := y) (by rw [e84]; exact ok) (by rw [e84]; exact hy) hy2 (hsz _ (gc_up_ne (by omega))) ?_
    rw [e84, hn, if_neg (fun z => hg ⟨z.1, gm.mpr z.2⟩)]
    exact q_P_ref I (by omega) q_fx.rf.fy q_fx.rf.fy h2
  by_cases h1 : 0 ≤ s ∧ s ≤ 3
  · by_cases h2 : 0 ≤ k ∧ k < nI n
    · simp only [h1, h2, and_self, if_true]
      have h2' := gm.mp h2
      obtain ⟨i, hi, rfl⟩ := q_km hn8 h2
      obtain ⟨s, hs, rfl⟩ := q_rng (n := 3) rfl h1
      obtain ⟨c1, ⟨z, hz, c2, c3⟩, c4⟩ := q_i31 I (show s < 4 by omega)
      obtain ⟨b1, b2, b3, b4, b5, b6, -⟩ := q_S (show s < 4 by omega)
      have vs : vp_in (nI s) 4 := vp_in_nI (by omega) (by decide)
      have cs : (nI s).toNatClampNeg = s := nI_clamp (by omega)
      rw [u123_26 (q := 24) rfl rfl]
      simp only [vs, cs, true_and, u123_0, u123_1, u123_4, u123_7, u123_8, u123_9, u123_12, u123_15, u123_16, u123_17, u123_20, u123_21, u123_22, u123_25, u123_26, u123_27, u123_30, u123_33, u123_34, u123_35, u123_38, u123_39, u123_40, u123_41, u123_42, u123_46, u123_48, u123_51, u123_52, u123_53, u123_54, u123_56, u123_59, u123_60, u123_61, u123_64, u123_65, u123_66, u123_69, u123_72, u123_73, u123_74, u123_76, u123_77, u123_78, u123_79, u123_82, u123_85, u123_86, ly_kd, ly_al, ly_fv0, ly_fv1, ly_fv2, ly_fv3, ly_fv4, ly_fk, ly_ra, Option.toList, List.cons_append, List.nil_append, q_ski, q_skr, q_sku, if_true, if_false, b1, b4, c1, t_ref2]
      by_cases h3 : μ 98 s = 0
      · simp only [h3, if_true]
        refine hk _ _ (q_hi_up q_hi.rf (by omega)) (fun R2 h4 => ?_)
        have eo : ∀ o, o ≠ 79 → gc_up μ 79 2 (μ 79 2 + 1) o = μ o := fun o ho => gc_up_ne ho
        refine m_which (y := y) (by rw [eo _ (by omega)]; exact ok) (by rw [eo _ (by omega)]; exact hy) hy2 (hsz _ (eo _ (by omega))) ?_
        rw [eo 84 (by omega), hn, if_pos ⟨h1, h2'⟩, eo 98 (by omega), cs, if_pos h3]
        exact q_P_ref I (by omega) q_fx.rf.fy q_fx.rf.fy h4
      · simp only [h3, if_false]
        have main : ∀ m c, c + m = 7 → ∀ μ1, q_g 43 μ μ1 → gc_W (gc_S (99)) cX11_which 11 0 R 44 [.ref 0, .int (nI s), .int (nI i), .int (q_set (q_tv (μ 84) (fun j => μ 100 (40 * s + j)) (43 + 4 * i) z) c), .int (nI c)] [] μ1 := by
          intro m
          induction m with
          | zero =>
            intro c hc μ1 g1
            obtain rfl : c = 7 := hc
            refine (u123_44).mpr ?_
            simp only [u123_0, u123_1, u123_4, u123_7, u123_8, u123_9, u123_12, u123_15, u123_16, u123_17, u123_20, u123_21, u123_22, u123_25, u123_26, u123_27, u123_30, u123_33, u123_34, u123_35, u123_38, u123_39, u123_40, u123_41, u123_42, u123_46, u123_48, u123_51, u123_52, u123_53, u123_54, u123_56, u123_59, u123_60, u123_61, u123_64, u123_65, u123_66, u123_69, u123_72, u123_73, u123_74, u123_76, u123_77, u123_78, u123_79, u123_82, u123_85, u123_86, show (7 : Int32) ≤ nI 7 by decide, if_true]
            refine hk _ _ g1.fx.fy.hi (fun R2 h4 => ?_)
            have eo : ∀ o, 50 < o → μ1 o = μ o := fun o ho => g1 o (by omega) (by omega) (by omega)
            refine m_which (y := y) (by rw [eo _ (by omega)]; exact ok) (by rw [eo _ (by omega)]; exact hy) hy2 (hsz _ (eo _ (by omega))) ?_
            rw [eo 84 (by omega), hn, if_pos ⟨h1, h2'⟩, eo 98 (by omega), cs, if_neg h3, eo 99 (by omega), eo 100 (by omega), c2, nI_clamp (show z < 2 ^ 31 by omega), nI_clamp (show i < 2 ^ 31 by omega)]
            exact fun μ2 f2 => h4 μ2 (q_I_fy I (g1.fx.fy.tr f2.fx.fy)) f2.fx.fy.hi
          | succ m ih =>
            intro c hc μ1 g1
            have R1 : q_R 31 (μ 84) μ1 := q_R_mem hR (fun o a b _ => g1 o (by omega) (by omega) (by omega))
            refine (u123_44).mpr ?_
            simp only [u123_0, u123_1, u123_4, u123_7, u123_8, u123_9, u123_12, u123_15, u123_16, u123_17, u123_20, u123_21, u123_22, u123_25, u123_26, u123_27, u123_30, u123_33, u123_34, u123_35, u123_38, u123_39, u123_40, u123_41, u123_42, u123_46, u123_48, u123_51, u123_52, u123_53, u123_54, u123_56, u123_59, u123_60, u123_61, u123_64, u123_65, u123_66, u123_69, u123_72, u123_73, u123_74, u123_76, u123_77, u123_78, u123_79, u123_82, u123_85, u123_86, q_nle (show c < 7 by omega) (by decide) (show (7 : Int32) = nI 7 from rfl), if_false, ly_kd, ly_al, ly_fv0, ly_fv1, ly_fv2, ly_fv3, ly_fv4, ly_fk, ly_ra, Option.toList, List.cons_append, List.nil_append, q_ski, q_skr, q_sku, if_true, if_false]
            refine t_suppose (what := 2) (who := i) (by omega) (show i < 8 by omega) R1 (fun μ2 g2 R2 => ?_)
            simp only [u123_0, u123_1, u123_4, u123_7, u123_8, u123_9, u123_12, u123_15, u123_16, u123_17, u123_20, u123_21, u123_22, u123_25, u123_26, u123_27, u123_30, u123_33, u123_34, u123_35, u123_38, u123_39, u123_40, u123_41, u123_42, u123_46, u123_48, u123_51, u123_52, u123_53, u123_54, u123_56, u123_59, u123_60, u123_61, u123_64, u123_65, u123_66, u123_69, u123_72, u123_73, u123_74, u123_76, u123_77, u123_78, u123_79, u123_82, u123_85, u123_86, ly_kd, ly_al, ly_fv0, ly_fv1, ly_fv2, ly_fv3, ly_fv4, ly_fk, ly_ra, Option.toList, List.cons_append, List.nil_append, q_ski, q_skr, q_sku, if_true, if_false]
            rw [u123_65 (q := 24) rfl rfl]
            simp only [vs, cs, true_and, u123_0, u123_1, u123_4, u123_7, u123_8, u123_9, u123_12, u123_15, u123_16, u123_17, u123_20, u123_21, u123_22, u123_25, u123_26, u123_27, u123_30, u123_33, u123_34, u123_35, u123_38, u123_39, u123_40, u123_41, u123_42, u123_46, u123_48, u123_51, u123_52, u123_53, u123_54, u123_56, u123_59, u123_60, u123_61, u123_64, u123_65, u123_66, u123_69, u123_72, u123_73, u123_74, u123_76, u123_77, u123_78, u123_79, u123_82, u123_85, u123_86, ly_kd, ly_al, ly_fv0, ly_fv1, ly_fv2, ly_fv3, ly_fv4, ly_fk, ly_ra, Option.toList, List.cons_append, List.nil_append, q_ski, q_skr, q_sku, if_true, if_false]
            refine t_trial (v := c) (what := 2) (who := i) (n := z) I (by omega) (show i < 8 by omega) (show 1 < 43 + 4 * i ∧ 43 + 4 * i < 75 by omega) (show q_ok (upd (μ 84) (43 + 4 * i) (nI c)) from q_ok_upd ok (by omega) (fun _ => by omega) (fun _ _ => by omega) (fun _ _ => by omega) (fun _ _ => by omega) (fun _ _ => by omega)) hy hy2 (by omega) hz c2 (g1.tr g2) R2 (fun μ3 r g3 hr => ?_)
            have hr : r < 0 ↔ q_tv (μ 84) (fun j => μ 100 (40 * s + j)) (43 + 4 * i) z c = true := hr
            have es : q_set (q_tv (μ 84) (fun j => μ 100 (40 * s + j)) (43 + 4 * i) z) (c + 1) = q_set (q_tv (μ 84) (fun j => μ 100 (40 * s + j)) (43 + 4 * i) z) c ||| (if q_tv (μ 84) (fun j => μ 100 (40 * s + j)) (43 + 4 * i) z c = true then (1 : Int32) <<< (nI c &&& 31) else 0) := rfl
            have nx := ih (c + 1) (by omega) μ3 g3
            rw [es] at nx
            by_cases e : q_tv (μ 84) (fun j => μ 100 (40 * s + j)) (43 + 4 * i) z c = true
            · rw [if_pos e] at nx
              simp only [u123_0, u123_1, u123_4, u123_7, u123_8, u123_9, u123_12, u123_15, u123_16, u123_17, u123_20, u123_21, u123_22, u123_25, u123_26, u123_27, u123_30, u123_33, u123_34, u123_35, u123_38, u123_39, u123_40, u123_41, u123_42, u123_46, u123_48, u123_51, u123_52, u123_53, u123_54, u123_56, u123_59, u123_60, u123_61, u123_64, u123_65, u123_66, u123_69, u123_72, u123_73, u123_74, u123_76, u123_77, u123_78, u123_79, u123_82, u123_85, u123_86, Int32.not_le.mpr (hr.mpr e), if_false, ly_kd, ly_al, ly_fv0, ly_fv1, ly_fv2, ly_fv3, ly_fv4, ly_fk, ly_ra, Option.toList, List.cons_append, List.nil_append, q_ski, q_skr, q_sku, if_true, if_false, nI_1]
              exact nx
            · rw [if_neg e, Int32.or_zero] at nx
              simp only [u123_0, u123_1, u123_4, u123_7, u123_8, u123_9, u123_12, u123_15, u123_16, u123_17, u123_20, u123_21, u123_22, u123_25, u123_26, u123_27, u123_30, u123_33, u123_34, u123_35, u123_38, u123_39, u123_40, u123_41, u123_42, u123_46, u123_48, u123_51, u123_52, u123_53, u123_54, u123_56, u123_59, u123_60, u123_61, u123_64, u123_65, u123_66, u123_69, u123_72, u123_73, u123_74, u123_76, u123_77, u123_78, u123_79, u123_82, u123_85, u123_86, Int32.not_lt.mp (fun z => e (hr.mp z)), if_true, ly_kd, ly_al, ly_fv0, ly_fv1, ly_fv2, ly_fv3, ly_fv4, ly_fk, ly_ra, Option.toList, List.cons_append, List.nil_append, q_ski, q_skr, q_sku, if_true, if_false, nI_1]
              exact nx
        exact main 7 0 rfl μ q_g.rf
    · simp only [h1, h2, and_self, if_true, if_false]
      exact ref (fun z => h2 z.2)
  · simp only [h1, if_false]
    exact ref (fun z => h1 z.1)
