/-! the calls that think: both sides -/
theorem p_then {n c : Int32} : q_P 95 203 [.ref 0, .int n, .int c] [.ref 83, .int n, .int c] := by
  intro μ R1 I hk
  obtain ⟨ok, ⟨y, hy, hy2⟩, hR, hL⟩ := q_c31 I
  simp only [s95, u95_0, u95_2, u95_3, u95_6, u95_9, u95_10, u95_13, u95_16, u95_17, u95_18, u95_21, u95_22, u95_23, u95_24, u95_27, u95_28, u95_31, u95_34, u95_35, u95_36, ly_kd, ly_al, ly_fv0, ly_fv1, ly_fv2, ly_fv3, ly_fv4, ly_fk, ly_ra, Option.toList, List.cons_append, List.nil_append, q_ski, q_skr, q_sku, if_true, if_false, t_upTo, t_isCell, t_ref1, q_b0, q_not]
  have ref : ¬ ((0 ≤ n ∧ n ≤ 60) ∧ 0 ≤ c ∧ c ≤ 15) → R1 (some (.int (-1000000001))) (gc_up μ 79 1 (μ 79 1 + 1)) := fun hg => by
    refine hk _ _ (q_hi_up q_hi.rf (by omega)) (fun R2 h2 => ?_)
    refine m_then (y := y) (by rw [gc_up_ne (by omega)]; exact ok) (by rw [gc_up_ne (by omega)]; exact hy) hy2 ?_
    rw [if_neg hg]
    exact q_P_ref I (by omega) q_fx.rf.fy q_fx.rf.fy h2
  by_cases h1 : 0 ≤ n ∧ n ≤ 60
  · by_cases h2 : 0 ≤ c ∧ c ≤ 15
    · simp only [h1, h2, and_self, if_true]
      obtain ⟨j, hj, rfl⟩ := q_rng (n := 60) rfl h1
      obtain ⟨i, hi, rfl⟩ := q_rng (n := 15) rfl h2
      refine t_thinkBehind ok hy (by omega) hR hL (fun μ1 g1 r1 => ?_)
      simp only [u95_0, u95_2, u95_3, u95_6, u95_9, u95_10, u95_13, u95_16, u95_17, u95_18, u95_21, u95_22, u95_23, u95_24, u95_27, u95_28, u95_31, u95_34, u95_35, u95_36, ly_kd, ly_al, ly_fv0, ly_fv1, ly_fv2, ly_fv3, ly_fv4, ly_fk, ly_ra, Option.toList, List.cons_append, List.nil_append, q_ski, q_skr, q_sku, if_true, if_false, vp_in_nI (show i < 16 by omega) (by decide), nI_clamp (show i < 2 ^ 31 by omega), true_and, r1.1 i (by omega)]
      refine hk _ _ g1.fx.fy.hi (fun R2 h2' => ?_)
      have e84 : μ1 84 = μ 84 := g1 84 (by omega) (by omega) (by omega)
      refine m_then (y := y) (by rw [e84]; exact ok) (by rw [e84]; exact hy) hy2 ?_
      rw [if_pos ⟨h1, h2⟩, e84, nI_clamp (by omega), nI_clamp (by omega)]
      exact fun μ2 f2 => h2' μ2 (q_I_fy I (g1.fx.fy.tr f2.fx.fy)) f2.fx.fy.hi
    · simp only [h1, h2, and_self, if_true, if_false]
      exact ref (fun z => h2 z.2)
  · simp only [h1, if_false]
    exact ref (fun z => h1 z.1)
