set_option maxHeartbeats 1000000 in
theorem p_odds {n v p : Int32} : q_P 125 232 [.ref 0, .int n, .int v, .int p] [.ref 83, .int n, .int v, .int p] := by
  intro μ R I hk
  obtain ⟨ok, ⟨y, hy, hy2⟩, hR, hL⟩ := q_c31 I
  have e12 : μ 31 12 = nI y := by rw [hR.2.2.2.2.2.2.2.1, hy]
  simp only [s125, u125_0, u125_2, u125_3, u125_6, u125_9, u125_12, u125_13, u125_16, u125_19, u125_20, u125_21, u125_24, u125_27, u125_28, u125_29, u125_32, u125_33, u125_34, u125_36, u125_37, u125_41, u125_43, u125_46, u125_47, u125_48, u125_49, u125_52, u125_55, u125_57, u125_58, u125_60, u125_63, u125_64, u125_68, u125_69, u125_72, u125_73, u125_76, u125_79, u125_82, u125_85, u125_86, u125_89, u125_92, u125_93, u125_96, u125_99, u125_102, u125_105, u125_107, u125_109, u125_110, u125_112, u125_114, u125_115, u125_116, u125_117, u125_119, u125_120, u125_123, u125_125, u125_128, u125_130, u125_132, u125_133, ly_kd, ly_al, ly_fv0, ly_fv1, ly_fv2, ly_fv3, ly_fv4, ly_fk, ly_ra, Option.toList, List.cons_append, List.nil_append, q_ski, q_skr, q_sku, if_true, if_false, t_upTo, t_ref1, q_b0, q_not]
  have ref : ¬ ((0 ≤ n ∧ n ≤ 30) ∧ (0 ≤ v ∧ v ≤ 1584) ∧ 0 ≤ p ∧ p ≤ 1) → R (some (.int (-1000000001))) (gc_up μ 79 1 (μ 79 1 + 1)) := fun hg => by
    refine hk _ _ (q_hi_up q_hi.rf (by omega)) (fun R2 h2 => ?_)
    have e84 : gc_up μ 79 1 (μ 79 1 + 1) 84 = μ 84 := gc_up_ne (by omega)
    refine m_odds (y := y) (by rw [e84]; exact ok) (by rw [e84]; exact hy) hy2 ?_
    rw [if_neg hg]
    exact q_P_ref I (by omega) q_fx.rf.fy q_fx.rf.fy h2
  by_cases h1 : 0 ≤ n ∧ n ≤ 30
  · by_cases h2 : 0 ≤ v ∧ v ≤ 1584
    · by_cases h3 : 0 ≤ p ∧ p ≤ 1
      · simp only [h1, h2, h3, and_self, if_true]
        obtain ⟨j, hj, rfl⟩ := q_rng (n := 30) rfl h1
        have e6 : nI y - nI y / 6 * 6 = nI (y % 6) := by rw [show (6 : Int32) = nI 6 from rfl, pk_rem (by omega) (by decide) (by decide)]
        have hm6 : y % 6 < 6 := Nat.mod_lt _ (by decide)
        have main : ∀ m c, c + m = 8 → ∀ μ1, q_g 43 μ μ1 → ∀ l6, gc_sk l6 = true → gc_W (gc_S (99)) cX11_odds 11 0 R 39 [.ref 0, .int (nI j), .int v, .int p, .int (nI (q_ct (q_ov (μ 84) (37 + y % 6) j v) c)), .int (nI c), l6] [] μ1 := by
          intro m
          induction m with
          | zero =>
            intro c hc μ1 g1 l6 h6
            obtain rfl : c = 8 := hc
            have h9 : q_ct (q_ov (μ 84) (37 + y % 6) j v) 8 < 9 := by have := q_ct_le (p := q_ov (μ 84) (37 + y % 6) j v) 8; omega
            obtain ⟨ev, hz⟩ := q_ev8 _ h9
            have fin : R (some (.int ((if p = 0 then nI (q_ct (q_ov (μ 84) (37 + y % 6) j v) 8) else 8) / nI (Nat.gcd (q_ct (q_ov (μ 84) (37 + y % 6) j v) 8) 8)))) μ1 := by
              refine hk _ _ g1.fx.fy.hi (fun R2 h4 => ?_)
              have e84 : μ1 84 = μ 84 := g1 84 (by omega) (by omega) (by omega)
              refine m_odds (y := y) (by rw [e84]; exact ok) (by rw [e84]; exact hy) hy2 ?_
              rw [if_pos ⟨h1, h2, h3⟩, e84, nI_clamp (by omega)]
              exact fun μ2 f2 => h4 μ2 (q_I_fy I (g1.fx.fy.tr f2.fx.fy)) f2.fx.fy.hi
            refine (u125_39).mpr ?_
            by_cases p0 : p = 0
            · rw [if_pos p0] at fin
              simp only [u125_0, u125_2, u125_3, u125_6, u125_9, u125_12, u125_13, u125_16, u125_19, u125_20, u125_21, u125_24, u125_27, u125_28, u125_29, u125_32, u125_33, u125_34, u125_36, u125_37, u125_41, u125_43, u125_46, u125_47, u125_48, u125_49, u125_52, u125_55, u125_57, u125_58, u125_60, u125_63, u125_64, u125_68, u125_69, u125_72, u125_73, u125_76, u125_79, u125_82, u125_85, u125_86, u125_89, u125_92, u125_93, u125_96, u125_99, u125_102, u125_105, u125_107, u125_109, u125_110, u125_112, u125_114, u125_115, u125_116, u125_117, u125_119, u125_120, u125_123, u125_125, u125_128, u125_130, u125_132, u125_133, show (8 : Int32) ≤ nI 8 by decide, if_true, p0, ev, hz, not_false_eq_true, true_and, Option.toList, List.cons_append, List.nil_append, q_ski, q_skr, q_sku, if_true, if_false]
              exact fin
            · rw [if_neg p0] at fin
              simp only [u125_0, u125_2, u125_3, u125_6, u125_9, u125_12, u125_13, u125_16, u125_19, u125_20, u125_21, u125_24, u125_27, u125_28, u125_29, u125_32, u125_33, u125_34, u125_36, u125_37, u125_41, u125_43, u125_46, u125_47, u125_48, u125_49, u125_52, u125_55, u125_57, u125_58, u125_60, u125_63, u125_64, u125_68, u125_69, u125_72, u125_73, u125_76, u125_79, u125_82, u125_85, u125_86, u125_89, u125_92, u125_93, u125_96, u125_99, u125_102, u125_105, u125_107, u125_109, u125_110, u125_112, u125_114, u125_115, u125_116, u125_117, u125_119, u125_120, u125_123, u125_125, u125_128, u125_130, u125_132, u125_133, show (8 : Int32) ≤ nI 8 by decide, if_true, p0, if_false, ev, hz, not_false_eq_true, true_and, Option.toList, List.cons_append, List.nil_append, q_ski, q_skr, q_sku, if_true, if_false]
              exact fin
          | succ m ih =>
            intro c hc μ1 g1 l6 h6
            have R1 : q_R 31 (μ 84) μ1 := q_R_mem hR (fun o a b _ => g1 o (by omega) (by omega) (by omega))
            have e12' : μ1 31 12 = nI y := by rw [g1 31 (by omega) (by omega) (by omega), e12]
            have okc : q_ok (upd (μ 84) (37 + y % 6) (nI c)) := q_ok_upd ok (by omega) (fun _ => by omega) (fun _ _ => by omega) (fun _ _ => by omega) (fun _ _ => by omega) (fun _ _ => by omega)
            have yc : upd (μ 84) (37 + y % 6) (nI c) 1 = nI y := (if_neg (by omega)).trans hy
            have Lc : q_L (upd (μ 84) (37 + y % 6) (nI c)) μ := q_L_pl hL (by omega)
            refine (u125_39).mpr ?_
            simp only [u125_0, u125_2, u125_3, u125_6, u125_9, u125_12, u125_13, u125_16, u125_19, u125_20, u125_21, u125_24, u125_27, u125_28, u125_29, u125_32, u125_33, u125_34, u125_36, u125_37, u125_41, u125_43, u125_46, u125_47, u125_48, u125_49, u125_52, u125_55, u125_57, u125_58, u125_60, u125_63, u125_64, u125_68, u125_69, u125_72, u125_73, u125_76, u125_79, u125_82, u125_85, u125_86, u125_89, u125_92, u125_93, u125_96, u125_99, u125_102, u125_105, u125_107, u125_109, u125_110, u125_112, u125_114, u125_115, u125_116, u125_117, u125_119, u125_120, u125_123, u125_125, u125_128, u125_130, u125_132, u125_133, q_nle (show c < 8 by omega) (by decide) (show (8 : Int32) = nI 8 from rfl), if_false, ly_kd, ly_al, ly_fv0, ly_fv1, ly_fv2, ly_fv3, ly_fv4, ly_fk, ly_ra, Option.toList, List.cons_append, List.nil_append, q_ski, q_skr, q_sku, if_true, if_false, e12', e6, show ¬ (6 : Int32) = 0 by decide, not_false_eq_true, true_and]
            refine t_suppose (what := 1) (who := y % 6) (by omega) hm6 R1 (fun μ2 g2 R2 => ?_)
            have R2 : q_R 43 (upd (μ 84) (37 + y % 6) (nI c)) μ2 := R2
            simp only [u125_0, u125_2, u125_3, u125_6, u125_9, u125_12, u125_13, u125_16, u125_19, u125_20, u125_21, u125_24, u125_27, u125_28, u125_29, u125_32, u125_33, u125_34, u125_36, u125_37, u125_41, u125_43, u125_46, u125_47, u125_48, u125_49, u125_52, u125_55, u125_57, u125_58, u125_60, u125_63, u125_64, u125_68, u125_69, u125_72, u125_73, u125_76, u125_79, u125_82, u125_85, u125_86, u125_89, u125_92, u125_93, u125_96, u125_99, u125_102, u125_105, u125_107, u125_109, u125_110, u125_112, u125_114, u125_115, u125_116, u125_117, u125_119, u125_120, u125_123, u125_125, u125_128, u125_130, u125_132, u125_133, ly_kd, ly_al, ly_fv0, ly_fv1, ly_fv2, ly_fv3, ly_fv4, ly_fk, ly_ra, Option.toList, List.cons_append, List.nil_append, q_ski, q_skr, q_sku, if_true, if_false, h6]
            have inner : ∀ k i, i + k = j → ∀ μ3, q_g 43 μ μ3 → q_R 43 (q_yrs (upd (μ 84) (37 + y % 6) (nI c)) i) μ3 → gc_W (gc_S (99)) cX11_odds 11 0 R 66 [.ref 0, .int (nI j), .int v, .int p, .int (nI (q_ct (q_ov (μ 84) (37 + y % 6) j v) c)), .int (nI c), .int (nI i)] [] μ3 := by
              intro k
              induction k with
              | zero =>
                intro i hi μ3 g3 R3
                obtain rfl : i = j := hi
                have nx := ih (c + 1) (by omega) μ3 g3 (.int (nI i)) rfl
                have es : q_ct (q_ov (μ 84) (37 + y % 6) i v) (c + 1) = q_ct (q_ov (μ 84) (37 + y % 6) i v) c + (if q_ov (μ 84) (37 + y % 6) i v c = true then 1 else 0) := rfl
                rw [es] at nx
                have ew : q_sum (fun b => q_yrs (upd (μ 84) (37 + y % 6) (nI c)) i (5 + 1 * b)) 16 = q_bw (μ 84) (37 + y % 6) i c := rfl
                refine (u125_66).mpr ?_
                simp only [u125_0, u125_2, u125_3, u125_6, u125_9, u125_12, u125_13, u125_16, u125_19, u125_20, u125_21, u125_24, u125_27, u125_28, u125_29, u125_32, u125_33, u125_34, u125_36, u125_37, u125_41, u125_43, u125_46, u125_47, u125_48, u125_49, u125_52, u125_55, u125_57, u125_58, u125_60, u125_63, u125_64, u125_68, u125_69, u125_72, u125_73, u125_76, u125_79, u125_82, u125_85, u125_86, u125_89, u125_92, u125_93, u125_96, u125_99, u125_102, u125_105, u125_107, u125_109, u125_110, u125_112, u125_114, u125_115, u125_116, u125_117, u125_119, u125_120, u125_123, u125_125, u125_128, u125_130, u125_132, u125_133, show nI i ≤ nI i from Int32.le_refl _, if_true, ly_kd, ly_al, ly_fv0, ly_fv1, ly_fv2, ly_fv3, ly_fv4, ly_fk, ly_ra, Option.toList, List.cons_append, List.nil_append, q_ski, q_skr, q_sku, if_true, if_false, t_wetR q_K43 R3]
                rw [ew]
                by_cases e : q_bw (μ 84) (37 + y % 6) i c ≤ v
                · rw [if_pos (show q_ov (μ 84) (37 + y % 6) i v c = true from decide_eq_true e)] at nx
                  simp only [u125_0, u125_2, u125_3, u125_6, u125_9, u125_12, u125_13, u125_16, u125_19, u125_20, u125_21, u125_24, u125_27, u125_28, u125_29, u125_32, u125_33, u125_34, u125_36, u125_37, u125_41, u125_43, u125_46, u125_47, u125_48, u125_49, u125_52, u125_55, u125_57, u125_58, u125_60, u125_63, u125_64, u125_68, u125_69, u125_72, u125_73, u125_76, u125_79, u125_82, u125_85, u125_86, u125_89, u125_92, u125_93, u125_96, u125_99, u125_102, u125_105, u125_107, u125_109, u125_110, u125_112, u125_114, u125_115, u125_116, u125_117, u125_119, u125_120, u125_123, u125_125, u125_128, u125_130, u125_132, u125_133, Int32.not_lt.mpr e, if_false, ly_kd, ly_al, ly_fv0, ly_fv1, ly_fv2, ly_fv3, ly_fv4, ly_fk, ly_ra, Option.toList, List.cons_append, List.nil_append, q_ski, q_skr, q_sku, if_true, if_false, nI_1]
                  exact nx
                · rw [if_neg (by unfold q_ov; rw [decide_eq_false e]; decide), Nat.add_zero] at nx
                  simp only [u125_0, u125_2, u125_3, u125_6, u125_9, u125_12, u125_13, u125_16, u125_19, u125_20, u125_21, u125_24, u125_27, u125_28, u125_29, u125_32, u125_33, u125_34, u125_36, u125_37, u125_41, u125_43, u125_46, u125_47, u125_48, u125_49, u125_52, u125_55, u125_57, u125_58, u125_60, u125_63, u125_64, u125_68, u125_69, u125_72, u125_73, u125_76, u125_79, u125_82, u125_85, u125_86, u125_89, u125_92, u125_93, u125_96, u125_99, u125_102, u125_105, u125_107, u125_109, u125_110, u125_112, u125_114, u125_115, u125_116, u125_117, u125_119, u125_120, u125_123, u125_125, u125_128, u125_130, u125_132, u125_133, Int32.not_le.mp e, if_true, ly_kd, ly_al, ly_fv0, ly_fv1, ly_fv2, ly_fv3, ly_fv4, ly_fk, ly_ra, Option.toList, List.cons_append, List.nil_append, q_ski, q_skr, q_sku, if_true, if_false, nI_1]
                  exact nx
              | succ k ik =>
                intro i hi μ3 g3 R3
                refine (u125_66).mpr ?_
                simp only [u125_0, u125_2, u125_3, u125_6, u125_9, u125_12, u125_13, u125_16, u125_19, u125_20, u125_21, u125_24, u125_27, u125_28, u125_29, u125_32, u125_33, u125_34, u125_36, u125_37, u125_41, u125_43, u125_46, u125_47, u125_48, u125_49, u125_52, u125_55, u125_57, u125_58, u125_60, u125_63, u125_64, u125_68, u125_69, u125_72, u125_73, u125_76, u125_79, u125_82, u125_85, u125_86, u125_89, u125_92, u125_93, u125_96, u125_99, u125_102, u125_105, u125_107, u125_109, u125_110, u125_112, u125_114, u125_115, u125_116, u125_117, u125_119, u125_120, u125_123, u125_125, u125_128, u125_130, u125_132, u125_133, q_nle (show i < j by omega) (by omega) rfl, if_false, ly_kd, ly_al, ly_fv0, ly_fv1, ly_fv2, ly_fv3, ly_fv4, ly_fk, ly_ra, Option.toList, List.cons_append, List.nil_append, q_ski, q_skr, q_sku, if_true, if_false]
                refine t_yearsOn okc yc (show y + j ≤ 20000 by omega) (show i < j by omega) Lc g3 R3 (fun μ4 g4 R4 => ?_)
                simp only [u125_0, u125_2, u125_3, u125_6, u125_9, u125_12, u125_13, u125_16, u125_19, u125_20, u125_21, u125_24, u125_27, u125_28, u125_29, u125_32, u125_33, u125_34, u125_36, u125_37, u125_41, u125_43, u125_46, u125_47, u125_48, u125_49, u125_52, u125_55, u125_57, u125_58, u125_60, u125_63, u125_64, u125_68, u125_69, u125_72, u125_73, u125_76, u125_79, u125_82, u125_85, u125_86, u125_89, u125_92, u125_93, u125_96, u125_99, u125_102, u125_105, u125_107, u125_109, u125_110, u125_112, u125_114, u125_115, u125_116, u125_117, u125_119, u125_120, u125_123, u125_125, u125_128, u125_130, u125_132, u125_133, Option.toList, List.cons_append, List.nil_append, q_ski, q_skr, q_sku, if_true, if_false, nI_1]
                exact ik (i + 1) (by omega) μ4 g4 R4
            exact inner j 0 (by omega) μ2 (g1.tr g2) R2
        exact main 8 0 rfl μ q_g.rf _ rfl
      · simp only [h1, h2, h3, and_self, if_true, if_false]
        exact ref (fun z => h3 z.2.2)
    · simp only [h1, h2, and_self, if_true, if_false]
      exact ref (fun z => h2 z.2.1)
  · simp only [h1, if_false]
    exact ref (fun z => h1 z.1)
theorem q_ok_4 {D : Nat → Int32} (hok : q_ok D) {x : Int32} {j : Nat} (hj : j = 2 ∨ j = 3 ∨ j = 4 ∨ (77 ≤ j ∧ j < 97) ∨ 197 ≤ j) : q_ok (upd D j x) := by
  obtain ⟨⟨n, hn, hn8⟩, ⟨y, hy, hy2⟩, hwet, htorn, hlist, hm, hwf⟩ := hok
  have o : ∀ i, i ≠ j → upd D j x i = D i := fun i hi => if_neg hi
  refine ⟨⟨n, by rw [o _ (by omega)]; exact hn, hn8⟩, ⟨y, by rw [o _ (by omega)]; exact hy, hy2⟩, fun c hc => by rw [o _ (by omega)]; exact hwet c hc, fun c hc => by rw [o _ (by omega)]; exact htorn c hc, fun p hp => by rw [o _ (by omega)]; exact hlist p hp, fun i hi => ?_, fun u hu => ?_⟩
  · rw [o _ (by omega), o _ (by omega), o _ (by omega), o _ (by omega)]; exact hm i hi
  · obtain ⟨k, hk, hk2⟩ := hwf u hu
    have h50 := hk2.1
    refine ⟨k, by rw [o _ (by omega)]; exact hk, ?_⟩
    have e : ∀ i, i < 50 → q_code (upd D j x) u i = q_code D u i := fun i hi => o _ (by omega)
    have dp : ∀ n, n ≤ 50 → q_dp (q_code (upd D j x) u) n = q_dp (q_code D u) n := by
      intro n
      induction n with
      | zero => intro _; rfl
      | succ n ih =>
        intro h
        unfold q_dp
        rw [e n (by omega), ih (by omega)]
    refine ⟨h50, fun n hn => ?_, fun hp => ?_⟩
    · rw [e n (by omega), dp n (by omega)]; exact hk2.2.1 n hn
    · rw [dp k h50]; exact hk2.2.2 hp
