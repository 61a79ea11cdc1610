theorem p_all {n w : Int32} : q_P 96 204 [.ref 0, .int n, .int w] [.ref 83, .int n, .int w] := by
  intro μ R1 I hk
  obtain ⟨ok, ⟨y, hy, hy2⟩, hR, hL⟩ := q_c31 I
  simp only [s96, u96_0, u96_2, u96_3, u96_6, u96_9, u96_10, u96_11, u96_14, u96_17, u96_18, u96_19, u96_22, u96_23, u96_24, u96_25, u96_28, u96_29, u96_56, u96_57, u96_60, u96_63, u96_64, u96_65, u96_68, u96_71, u96_72, u96_73, u96_76, u96_79, u96_82, ly_kd, ly_al, ly_fv0, ly_fv1, ly_fv2, ly_fv3, ly_fv4, ly_fk, ly_ra, Option.toList, List.cons_append, List.nil_append, q_ski, q_skr, q_sku, if_true, if_false, t_upTo, t_isCell, t_ref1, q_b0, q_not]
  have ref : ¬ ((0 ≤ n ∧ n ≤ 60) ∧ 0 ≤ w ∧ w ≤ 2) → R1 (some (.int (-1000000001))) (gc_up μ 79 1 (μ 79 1 + 1)) := fun hg => by
    refine hk _ _ (q_hi_up q_hi.rf (by omega)) (fun R2 h2 => ?_)
    refine m_all (y := y) (by rw [gc_up_ne (by omega)]; exact ok) (by rw [gc_up_ne (by omega)]; exact hy) hy2 ?_
    rw [if_neg hg]
    exact q_P_ref I (by omega) q_fx.rf.fy q_fx.rf.fy h2
  by_cases h1 : 0 ≤ n ∧ n ≤ 60
  · by_cases h2 : 0 ≤ w ∧ w ≤ 2
    · simp only [h1, h2, and_self, if_true]
      obtain ⟨j, hj, rfl⟩ := q_rng (n := 60) rfl h1
      refine t_thinkBehind ok hy (by omega) hR hL (fun μ1 g1 r1 => ?_)
      obtain ⟨ok1, hy1⟩ := q_ok_yrs ok hy j (by omega)
      have fin : R1 (some (.int (q_al (q_yrs (μ 84) j) w))) μ1 := by
        refine hk _ _ g1.fx.fy.hi (fun R2 h2' => ?_)
        have e84 : μ1 84 = μ 84 := g1 84 (by omega) (by omega) (by omega)
        refine m_all (y := y) (by rw [e84]; exact ok) (by rw [e84]; exact hy) hy2 ?_
        rw [if_pos ⟨h1, h2⟩, e84, nI_clamp (by omega)]
        exact fun μ2 f2 => h2' μ2 (q_I_fy I (g1.fx.fy.tr f2.fx.fy)) f2.fx.fy.hi
      unfold q_al at fin
      by_cases w0 : w = 0
      · rw [if_pos w0] at fin
        simp only [u96_0, u96_2, u96_3, u96_6, u96_9, u96_10, u96_11, u96_14, u96_17, u96_18, u96_19, u96_22, u96_23, u96_24, u96_25, u96_28, u96_29, u96_56, u96_57, u96_60, u96_63, u96_64, u96_65, u96_68, u96_71, u96_72, u96_73, u96_76, u96_79, u96_82, ly_kd, ly_al, ly_fv0, ly_fv1, ly_fv2, ly_fv3, ly_fv4, ly_fk, ly_ra, Option.toList, List.cons_append, List.nil_append, q_ski, q_skr, q_sku, if_true, if_false, w0, t_wetR q_K43 r1]
        exact fin
      · rw [if_neg w0] at fin
        by_cases w1 : w = 1
        · rw [if_pos w1] at fin
          obtain ⟨⟨m, hm, hm8⟩, -⟩ := ok1
          have r1' := r1
          obtain ⟨a1, a2, a3, a4, a5, a6, a7, a8, a9⟩ := r1
          rw [hm, nI_clamp (by omega)] at fin
          simp only [u96_0, u96_2, u96_3, u96_6, u96_9, u96_10, u96_11, u96_14, u96_17, u96_18, u96_19, u96_22, u96_23, u96_24, u96_25, u96_28, u96_29, u96_56, u96_57, u96_60, u96_63, u96_64, u96_65, u96_68, u96_71, u96_72, u96_73, u96_76, u96_79, u96_82, ly_kd, ly_al, ly_fv0, ly_fv1, ly_fv2, ly_fv3, ly_fv4, ly_fk, ly_ra, Option.toList, List.cons_append, List.nil_append, q_ski, q_skr, q_sku, if_true, if_false, w1, show ¬ (1 : Int32) = 0 by decide, t_sorrowOfAll q_K43 (show μ1 43 13 = nI m by rw [a9, hm]) hm8]
          rw [q_sum_cong (fun i hi => a5 i (by omega))]
          exact fin
        · rw [if_neg w1, q_ones 16 (by omega)] at fin
          simp only [u96_0, u96_2, u96_3, u96_6, u96_9, u96_10, u96_11, u96_14, u96_17, u96_18, u96_19, u96_22, u96_23, u96_24, u96_25, u96_28, u96_29, u96_56, u96_57, u96_60, u96_63, u96_64, u96_65, u96_68, u96_71, u96_72, u96_73, u96_76, u96_79, u96_82, ly_kd, ly_al, ly_fv0, ly_fv1, ly_fv2, ly_fv3, ly_fv4, ly_fk, ly_ra, Option.toList, List.cons_append, List.nil_append, q_ski, q_skr, q_sku, if_true, if_false, w0, w1, t_wetCells q_K43, q_w0 ok1 r1, t_bitCount]
          exact fin
    · simp only [h1, h2, and_self, if_true, if_false]
      exact ref (fun z => h2 z.2)
  · simp only [h1, if_false]
    exact ref (fun z => h1 z.1)
theorem p_dry {c : Int32} : q_P 98 206 [.ref 0, .int c] [.ref 83, .int c] := by
  intro μ R1 I hk
  obtain ⟨ok, ⟨y, hy, hy2⟩, hR, hL⟩ := q_c31 I
  simp only [s98, u98_0, u98_1, u98_4, u98_7, u98_8, u98_9, u98_12, u98_13, u98_14, u98_15, u98_18, u98_21, u98_22, u98_23, u98_26, ly_kd, ly_al, ly_fv0, ly_fv1, ly_fv2, ly_fv3, ly_fv4, ly_fk, ly_ra, Option.toList, List.cons_append, List.nil_append, q_ski, q_skr, q_sku, if_true, if_false, t_isCell, t_ref1, q_b0, q_not]
  by_cases h1 : 0 ≤ c ∧ c ≤ 15
  · simp only [h1, and_self, if_true]
    obtain ⟨i, hi, rfl⟩ := q_rng (n := 15) rfl h1
    refine t_firstBehind (w := 5 + i) ok hy hy2 hR hL rfl (show i < 16 by omega) (by decide) (fun D' μ' r => r.1 i (by omega)) ?_
    have gl : ∀ μ1, q_g 43 μ μ1 → μ1 84 = μ 84 := fun μ1 g => g 84 (by omega) (by omega) (by omega)
    by_cases hl : q_yrs (μ 84) (q_low (μ 84) (5 + i) 0) (5 + i) ≤ 0
    · rw [if_pos hl]
      intro μ1 g1
      simp only [u98_0, u98_1, u98_4, u98_7, u98_8, u98_9, u98_12, u98_13, u98_14, u98_15, u98_18, u98_21, u98_22, u98_23, u98_26, ly_kd, ly_al, ly_fv0, ly_fv1, ly_fv2, ly_fv3, ly_fv4, ly_fk, ly_ra, Option.toList, List.cons_append, List.nil_append, q_ski, q_skr, q_sku, if_true, if_false]
      refine hk _ _ g1.fx.fy.hi (fun R2 h2 => ?_)
      have e84 := gl μ1 g1
      refine m_dry (y := y) (by rw [e84]; exact ok) (by rw [e84]; exact hy) hy2 ?_
      rw [if_pos h1, e84, nI_clamp (by omega), if_pos hl]
      exact fun μ2 f2 => h2 μ2 (q_I_fy I (g1.fx.fy.tr f2.fx.fy)) f2.fx.fy.hi
    · rw [if_neg hl]
      intro μ1 g1
      simp only [u98_0, u98_1, u98_4, u98_7, u98_8, u98_9, u98_12, u98_13, u98_14, u98_15, u98_18, u98_21, u98_22, u98_23, u98_26, ly_kd, ly_al, ly_fv0, ly_fv1, ly_fv2, ly_fv3, ly_fv4, ly_fk, ly_ra, Option.toList, List.cons_append, List.nil_append, q_ski, q_skr, q_sku, if_true, if_false]
      refine hk _ _ (q_hi_up g1.fx.fy.hi (by omega)) (fun R2 h2 => ?_)
      have e84 : gc_up μ1 79 2 (μ1 79 2 + 1) 84 = μ 84 := by rw [gc_up_ne (by omega)]; exact gl μ1 g1
      refine m_dry (y := y) (by rw [e84]; exact ok) (by rw [e84]; exact hy) hy2 ?_
      rw [if_pos h1, e84, nI_clamp (by omega), if_neg hl]
      exact fun μ2 f2 => q_P_ref I (by omega) g1.fx.fy f2.fx.fy h2
  · simp only [h1, if_false]
    refine hk _ _ (q_hi_up q_hi.rf (by omega)) (fun R2 h2 => ?_)
    refine m_dry (y := y) (by rw [gc_up_ne (by omega)]; exact ok) (by rw [gc_up_ne (by omega)]; exact hy) hy2 ?_
    rw [if_neg h1]
    exact q_P_ref I (by omega) q_fx.rf.fy q_fx.rf.fy h2
theorem p_eased {k v : Int32} : q_P 99 207 [.ref 0, .int k, .int v] [.ref 83, .int k, .int v] := by
  intro μ R1 I hk
  obtain ⟨ok, ⟨y, hy, hy2⟩, hR, hL⟩ := q_c31 I
  obtain ⟨n, hn, hn', hn8⟩ := q_n31 I
  have gm := q_gm (k := k) hn8
  simp only [s99, u99_0, u99_1, u99_2, u99_5, u99_8, u99_10, u99_11, u99_14, u99_17, u99_18, u99_19, u99_22, u99_23, u99_24, u99_25, u99_28, u99_31, u99_32, u99_33, u99_36, ly_kd, ly_al, ly_fv0, ly_fv1, ly_fv2, ly_fv3, ly_fv4, ly_fk, ly_ra, Option.toList, List.cons_append, List.nil_append, q_ski, q_skr, q_sku, if_true, if_false, t_isMourner, t_upTo, t_ref1, q_b0, q_not, hn']
  have ref : ¬ ((0 ≤ k ∧ k < nI n) ∧ 0 ≤ v ∧ v ≤ 99) → R1 (some (.int (-1000000001))) (gc_up μ 79 1 (μ 79 1 + 1)) := fun hg => by
    refine hk _ _ (q_hi_up q_hi.rf (by omega)) (fun R2 h2 => ?_)
    have e84 : gc_up μ 79 1 (μ 79 1 + 1) 84 = μ 84 := gc_up_ne (by omega)
    refine m_eased (y := y) (by rw [e84]; exact ok) (by rw [e84]; exact hy) hy2 ?_
    rw [e84, hn, if_neg (fun z => hg ⟨gm.mpr z.1, z.2⟩)]
    exact q_P_ref I (by omega) q_fx.rf.fy q_fx.rf.fy h2
  by_cases h1 : 0 ≤ k ∧ k < nI n
  · by_cases h2 : 0 ≤ v ∧ v ≤ 99
    · simp only [h1, h2, and_self, if_true]
      have h1' := gm.mp h1
      obtain ⟨i, hi, rfl⟩ := q_km hn8 h1
      refine t_firstBehind (w := 45 + 4 * i) ok hy hy2 hR hL rfl (show i < 8 by omega) (by decide) (fun D' μ' r => r.2.2.2.2.1 i (by omega)) ?_
      have gl : ∀ μ1, q_g 43 μ μ1 → μ1 84 = μ 84 := fun μ1 g => g 84 (by omega) (by omega) (by omega)
      by_cases hl : q_yrs (μ 84) (q_low (μ 84) (45 + 4 * i) v) (45 + 4 * i) ≤ v
      · rw [if_pos hl]
        intro μ1 g1
        simp only [u99_0, u99_1, u99_2, u99_5, u99_8, u99_10, u99_11, u99_14, u99_17, u99_18, u99_19, u99_22, u99_23, u99_24, u99_25, u99_28, u99_31, u99_32, u99_33, u99_36, ly_kd, ly_al, ly_fv0, ly_fv1, ly_fv2, ly_fv3, ly_fv4, ly_fk, ly_ra, Option.toList, List.cons_append, List.nil_append, q_ski, q_skr, q_sku, if_true, if_false]
        refine hk _ _ g1.fx.fy.hi (fun R2 h3 => ?_)
        have e84 := gl μ1 g1
        refine m_eased (y := y) (by rw [e84]; exact ok) (by rw [e84]; exact hy) hy2 ?_
        rw [e84, hn, if_pos ⟨h1', h2⟩, nI_clamp (by omega), if_pos hl]
        exact fun μ2 f2 => h3 μ2 (q_I_fy I (g1.fx.fy.tr f2.fx.fy)) f2.fx.fy.hi
      · rw [if_neg hl]
        intro μ1 g1
        simp only [u99_0, u99_1, u99_2, u99_5, u99_8, u99_10, u99_11, u99_14, u99_17, u99_18, u99_19, u99_22, u99_23, u99_24, u99_25, u99_28, u99_31, u99_32, u99_33, u99_36, ly_kd, ly_al, ly_fv0, ly_fv1, ly_fv2, ly_fv3, ly_fv4, ly_fk, ly_ra, Option.toList, List.cons_append, List.nil_append, q_ski, q_skr, q_sku, if_true, if_false]
        refine hk _ _ (q_hi_up g1.fx.fy.hi (by omega)) (fun R2 h3 => ?_)
        have e84 : gc_up μ1 79 2 (μ1 79 2 + 1) 84 = μ 84 := by rw [gc_up_ne (by omega)]; exact gl μ1 g1
        refine m_eased (y := y) (by rw [e84]; exact ok) (by rw [e84]; exact hy) hy2 ?_
        rw [e84, hn, if_pos ⟨h1', h2⟩, nI_clamp (by omega), if_neg hl]
        exact fun μ2 f2 => q_P_ref I (by omega) g1.fx.fy f2.fx.fy h3
    · simp only [h1, h2, and_self, if_true, if_false]
      exact ref (fun z => h2 z.2)
  · simp only [h1, if_false]
    exact ref (fun z => h1 z.1)
theorem p_cellFor {k v : Int32} : q_P 102 210 [.ref 0, .int k, .int v] [.ref 83, .int k, .int v] := by
  intro μ R1 I hk
  obtain ⟨ok, ⟨y, hy, hy2⟩, hR, hL⟩ := q_c31 I
  obtain ⟨n, hn, hn', hn8⟩ := q_n31 I
  have gm := q_gm (k := k) hn8
  simp only [s102, u102_0, u102_1, u102_2, u102_5, u102_8, u102_10, u102_11, u102_14, u102_17, u102_18, u102_19, u102_22, u102_23, u102_24, u102_25, u102_26, u102_28, u102_29, u102_32, ly_kd, ly_al, ly_fv0, ly_fv1, ly_fv2, ly_fv3, ly_fv4, ly_fk, ly_ra, Option.toList, List.cons_append, List.nil_append, q_ski, q_skr, q_sku, if_true, if_false, t_isMourner, t_upTo, t_ref1, q_b0, q_not, hn']
  have ref : ¬ ((0 ≤ k ∧ k < nI n) ∧ 0 ≤ v ∧ v ≤ 60) → R1 (some (.int (-1000000001))) (gc_up μ 79 1 (μ 79 1 + 1)) := fun hg => by
    refine hk _ _ (q_hi_up q_hi.rf (by omega)) (fun R2 h2 => ?_)
    have e84 : gc_up μ 79 1 (μ 79 1 + 1) 84 = μ 84 := gc_up_ne (by omega)
    refine m_cellFor (y := y) (by rw [e84]; exact ok) (by rw [e84]; exact hy) hy2 ?_
    rw [e84, hn, if_neg (fun z => hg ⟨gm.mpr z.1, z.2⟩)]
    exact q_P_ref I (by omega) q_fx.rf.fy q_fx.rf.fy h2
  by_cases h1 : 0 ≤ k ∧ k < nI n
  · by_cases h2 : 0 ≤ v ∧ v ≤ 60
    · simp only [h1, h2, and_self, if_true]
      have h1' := gm.mp h1
      obtain ⟨i, hi, rfl⟩ := q_km hn8 h1
      obtain ⟨j, hj, rfl⟩ := q_rng (n := 60) rfl h2
      refine t_leastWetting (what := 0) (who := i) (many := 16) (n := j) hy hy2 hj (by omega) (show i < 8 by omega) (by omega) (fun v hv => show q_ok (upd (μ 84) (46 + 4 * i) (nI v)) from q_ok_upd ok (by omega) (fun _ => by omega) (fun _ _ => by omega) (fun _ _ => by omega) (fun _ _ => by omega) (fun _ _ => by omega)) hR hL (fun μ1 g1 => ?_)
      simp only [u102_0, u102_1, u102_2, u102_5, u102_8, u102_10, u102_11, u102_14, u102_17, u102_18, u102_19, u102_22, u102_23, u102_24, u102_25, u102_26, u102_28, u102_29, u102_32, ly_kd, ly_al, ly_fv0, ly_fv1, ly_fv2, ly_fv3, ly_fv4, ly_fk, ly_ra, Option.toList, List.cons_append, List.nil_append, q_ski, q_skr, q_sku, if_true, if_false]
      refine hk _ _ g1.fx.fy.hi (fun R2 h3 => ?_)
      have e84 : μ1 84 = μ 84 := g1 84 (by omega) (by omega) (by omega)
      refine m_cellFor (y := y) (by rw [e84]; exact ok) (by rw [e84]; exact hy) hy2 ?_
      rw [e84, hn, if_pos ⟨h1', h2⟩, nI_clamp (by omega), nI_clamp (by omega)]
      exact fun μ2 f2 => h3 μ2 (q_I_fy I (g1.fx.fy.tr f2.fx.fy)) f2.fx.fy.hi
    · simp only [h1, h2, and_self, if_true, if_false]
      exact ref (fun z => h2 z.2)
  · simp only [h1, if_false]
    exact ref (fun z => h1 z.1)
theorem p_kindFor {k v : Int32} : q_P 104 212 [.ref 0, .int k, .int v] [.ref 83, .int k, .int v] := by
  intro μ R1 I hk
  obtain ⟨ok, ⟨y, hy, hy2⟩, hR, hL⟩ := q_c31 I
  obtain ⟨n, hn, hn', hn8⟩ := q_n31 I
  have gm := q_gm (k := k) hn8
  simp only [s104, u104_0, u104_1, u104_2, u104_5, u104_8, u104_10, u104_11, u104_14, u104_17, u104_18, u104_19, u104_22, u104_23, u104_24, u104_25, u104_26, u104_28, u104_29, u104_32, ly_kd, ly_al, ly_fv0, ly_fv1, ly_fv2, ly_fv3, ly_fv4, ly_fk, ly_ra, Option.toList, List.cons_append, List.nil_append, q_ski, q_skr, q_sku, if_true, if_false, t_isMourner, t_upTo, t_ref1, q_b0, q_not, hn']
  have ref : ¬ ((0 ≤ k ∧ k < nI n) ∧ 0 ≤ v ∧ v ≤ 60) → R1 (some (.int (-1000000001))) (gc_up μ 79 1 (μ 79 1 + 1)) := fun hg => by
    refine hk _ _ (q_hi_up q_hi.rf (by omega)) (fun R2 h2 => ?_)
    have e84 : gc_up μ 79 1 (μ 79 1 + 1) 84 = μ 84 := gc_up_ne (by omega)
    refine m_kindFor (y := y) (by rw [e84]; exact ok) (by rw [e84]; exact hy) hy2 ?_
    rw [e84, hn, if_neg (fun z => hg ⟨gm.mpr z.1, z.2⟩)]
    exact q_P_ref I (by omega) q_fx.rf.fy q_fx.rf.fy h2
  by_cases h1 : 0 ≤ k ∧ k < nI n
  · by_cases h2 : 0 ≤ v ∧ v ≤ 60
    · simp only [h1, h2, and_self, if_true]
      have h1' := gm.mp h1
      obtain ⟨i, hi, rfl⟩ := q_km hn8 h1
      obtain ⟨j, hj, rfl⟩ := q_rng (n := 60) rfl h2
      refine t_leastWetting (what := 2) (who := i) (many := 7) (n := j) hy hy2 hj (by omega) (show i < 8 by omega) (by omega) (fun v hv => show q_ok (upd (μ 84) (43 + 4 * i) (nI v)) from q_ok_upd ok (by omega) (fun _ => by omega) (fun _ _ => by omega) (fun _ _ => by omega) (fun _ _ => by omega) (fun _ _ => by omega)) hR hL (fun μ1 g1 => ?_)
      simp only [u104_0, u104_1, u104_2, u104_5, u104_8, u104_10, u104_11, u104_14, u104_17, u104_18, u104_19, u104_22, u104_23, u104_24, u104_25, u104_26, u104_28, u104_29, u104_32, ly_kd, ly_al, ly_fv0, ly_fv1, ly_fv2, ly_fv3, ly_fv4, ly_fk, ly_ra, Option.toList, List.cons_append, List.nil_append, q_ski, q_skr, q_sku, if_true, if_false]
      refine hk _ _ g1.fx.fy.hi (fun R2 h3 => ?_)
      have e84 : μ1 84 = μ 84 := g1 84 (by omega) (by omega) (by omega)
      refine m_kindFor (y := y) (by rw [e84]; exact ok) (by rw [e84]; exact hy) hy2 ?_
      rw [e84, hn, if_pos ⟨h1', h2⟩, nI_clamp (by omega), nI_clamp (by omega)]
      exact fun μ2 f2 => h3 μ2 (q_I_fy I (g1.fx.fy.tr f2.fx.fy)) f2.fx.fy.hi
    · simp only [h1, h2, and_self, if_true, if_false]
      exact ref (fun z => h2 z.2)
  · simp only [h1, if_false]
    exact ref (fun z => h1 z.1)
theorem p_comesFor {k v : Int32} : q_P 103 211 [.ref 0, .int k, .int v] [.ref 83, .int k, .int v] := by
  intro μ R1 I hk
  obtain ⟨ok, ⟨y, hy, hy2⟩, hR, hL⟩ := q_c31 I
  simp only [s103, u103_0, u103_1, u103_2, u103_5, u103_8, u103_10, u103_11, u103_14, u103_17, u103_18, u103_19, u103_22, u103_23, u103_24, u103_25, u103_26, u103_28, u103_29, u103_32, ly_kd, ly_al, ly_fv0, ly_fv1, ly_fv2, ly_fv3, ly_fv4, ly_fk, ly_ra, Option.toList, List.cons_append, List.nil_append, q_ski, q_skr, q_sku, if_true, if_false, t_upTo, t_ref1, q_b0, q_not]
  have ref : ¬ ((0 ≤ k ∧ k ≤ 5) ∧ 0 ≤ v ∧ v ≤ 60) → R1 (some (.int (-1000000001))) (gc_up μ 79 1 (μ 79 1 + 1)) := fun hg => by
    refine hk _ _ (q_hi_up q_hi.rf (by omega)) (fun R2 h2 => ?_)
    have e84 : gc_up μ 79 1 (μ 79 1 + 1) 84 = μ 84 := gc_up_ne (by omega)
    refine m_comesFor (y := y) (by rw [e84]; exact ok) (by rw [e84]; exact hy) hy2 ?_
    rw [if_neg hg]
    exact q_P_ref I (by omega) q_fx.rf.fy q_fx.rf.fy h2
  by_cases h1 : 0 ≤ k ∧ k ≤ 5
  · by_cases h2 : 0 ≤ v ∧ v ≤ 60
    · simp only [h1, h2, and_self, if_true]
      obtain ⟨i, hi, rfl⟩ := q_rng (n := 5) rfl h1
      obtain ⟨j, hj, rfl⟩ := q_rng (n := 60) rfl h2
      refine t_leastWetting (what := 1) (who := i) (many := 8) (n := j) hy hy2 hj (by omega) (show i < 6 by omega) (by omega) (fun v hv => show q_ok (upd (μ 84) (37 + i) (nI v)) from q_ok_upd ok (by omega) (fun _ => by omega) (fun _ _ => by omega) (fun _ _ => by omega) (fun _ _ => by omega) (fun _ _ => by omega)) hR hL (fun μ1 g1 => ?_)
      simp only [u103_0, u103_1, u103_2, u103_5, u103_8, u103_10, u103_11, u103_14, u103_17, u103_18, u103_19, u103_22, u103_23, u103_24, u103_25, u103_26, u103_28, u103_29, u103_32, ly_kd, ly_al, ly_fv0, ly_fv1, ly_fv2, ly_fv3, ly_fv4, ly_fk, ly_ra, Option.toList, List.cons_append, List.nil_append, q_ski, q_skr, q_sku, if_true, if_false]
      refine hk _ _ g1.fx.fy.hi (fun R2 h3 => ?_)
      have e84 : μ1 84 = μ 84 := g1 84 (by omega) (by omega) (by omega)
      refine m_comesFor (y := y) (by rw [e84]; exact ok) (by rw [e84]; exact hy) hy2 ?_
      rw [if_pos ⟨h1, h2⟩, e84, nI_clamp (by omega), nI_clamp (by omega)]
      exact fun μ2 f2 => h3 μ2 (q_I_fy I (g1.fx.fy.tr f2.fx.fy)) f2.fx.fy.hi
    · simp only [h1, h2, and_self, if_true, if_false]
      exact ref (fun z => h2 z.2)
  · simp only [h1, if_false]
    exact ref (fun z => h1 z.1)
