/-! foldings: the reference folds, all of it -/
set_option maxHeartbeats 1000000 in
theorem m_foldsAll {d : Nat} {R : gR} {μ : gM} {f k : Nat} (v : q_vf f k) (h : ∀ μ', (∀ o, o ≠ 92 → o ≠ 93 → μ' o = μ o) → (∀ i, i < 16 → μ' 92 i = nI (q_pil (q_fe f k i)) ∧ μ' 93 i = nI (q_fe f k i).2.2.2.2) → R none μ') : gc_S (d + 2) 216 [.ref 83, .int (nI f)] μ R := by
  obtain ⟨hk, h1, h2, hg, hA, hB⟩ := v
  have flt := q_lt31 hk h2
  have three : ∀ j c r nA nB (X Y L : Nat → Nat) (μ1 : gM), j ≤ k → q_cn nA c → q_cn nB r → q_cA f k = nA + q_cA f j → q_cB f k = nB + q_cB f j → (∀ i, i < 16 → X i < c ∧ Y i < r ∧ L i < 16 / (c * r)) → (∀ i, i < 16 → q_fd f j (c, r, X i, Y i, L i) = q_fe f k i) → (∀ o, o ≠ 92 → o ≠ 93 → μ1 o = μ o) → (∀ i, i < 16 → μ1 92 i = nI (Y i * c + X i)) → (∀ i, i < 16 → μ1 93 i = nI (L i)) → ∀ (q : Int32), (∀ j', j = j' + 1 → q = nI (10 ^ j')) → ∀ l6, gc_sk l6 = true → gc_W (gc_S (d+1)) cX12_foldsAll 12 2 R 66 [.ref 83, .int (nI f), .int (nI c), .int (nI r), .int q, .int (nI j), l6] [] μ1 := by
    intro j
    induction j with
    | zero =>
      intro c r nA nB X Y L μ1 hj hc hr ha hb hs E f1 h92 h93 q hq l6 s6
      refine (u216_66).mpr ?_
      simp only [u216_0, u216_1, u216_3, u216_5, u216_8, u216_9, u216_12, u216_13, u216_14, u216_15, u216_16, u216_19, u216_20, u216_21, u216_22, u216_25, u216_28, u216_29, u216_30, u216_31, u216_32, u216_33, u216_35, u216_36, u216_39, u216_43, u216_44, u216_47, u216_49, u216_51, u216_52, u216_54, u216_57, u216_60, u216_61, u216_64, u216_68, u216_71, u216_72, u216_74, u216_75, u216_77, u216_78, u216_80, u216_81, u216_83, u216_84, u216_85, u216_88, u216_90, u216_91, u216_94, u216_95, u216_96, u216_97, u216_100, u216_101, u216_102, u216_104, u216_105, u216_108, u216_109, u216_112, u216_113, u216_114, u216_115, u216_116, u216_118, u216_120, u216_121, u216_123, u216_126, u216_129, ly_kd, ly_al, ly_fv0, ly_fv1, ly_fv2, ly_fv3, ly_fv4, ly_fk, ly_ra, ↓reduceIte, Option.toList, List.cons_append, List.nil_append, q_ski, q_skr, q_sku, if_true, if_false, not_false_eq_true, true_and, show nI 0 ≤ 0 by decide]
      exact h μ1 f1 (fun i hi => by rw [← E i hi, h92 i hi, h93 i hi]; exact ⟨rfl, rfl⟩)
    | succ j ih =>
      intro c r nA nB X Y L μ1 hj hc hr ha hb hs E f1 h92 h93 q hq l6 s6
      obtain rfl := hq j rfl
      have j4 : 10 ^ j ≤ 10 ^ 4 := Nat.pow_le_pow_right (by decide) (by omega)
      have j1 : 0 < 10 ^ j := Nat.pow_pos (by decide)
      have z9 : ¬ nI (10 ^ j) = 0 := fun z => absurd ((nI_eq (by omega) (by decide)).mp (show nI (10 ^ j) = nI 0 from z)) (by omega)
      have dv : nI f / nI (10 ^ j) = nI (f / 10 ^ j) := pk_div (by omega) j1 (by omega)
      have q31 : f / 10 ^ j < 2 ^ 31 := Nat.lt_of_le_of_lt (Nat.div_le_self _ _) (by omega)
      have rm : nI (f / 10 ^ j) - nI (f / 10 ^ j) / 10 * 10 = nI (q_dg f j) := pk_rem q31 (by decide) (by decide)
      have nn : nI (10 ^ j) / 10 = nI (10 ^ j / 10) := pk_div (by omega) (by decide) (by decide)
      have nj : ¬ nI (j + 1) ≤ 0 := (show ¬ nI (j + 1) ≤ nI 0 from nI_ge (by omega) (by omega))
      obtain ⟨c1, c2, c3, c4⟩ := q_cn_4 hc
      obtain ⟨r1, r2, r3, r4⟩ := q_cn_4 hr
      have hc2 : nI c / 2 = nI (c / 2) := pk_div (by omega) (by decide) (by decide)
      have hr2 : nI r / 2 = nI (r / 2) := pk_div (by omega) (by decide) (by decide)
      have dg := hg j (by omega)
      have ha2 := ha
      have hb2 := hb
      rw [q_cA_s] at ha2
      rw [q_cB_s] at hb2
      have h12 : q_dg f j ≤ 2 → ¬ c / 2 = 0 := fun z y => by
        rw [if_pos z] at ha2
        have := c4 y
        omega
      have h34 : ¬ q_dg f j ≤ 2 → ¬ r / 2 = 0 := fun z y => by
        rw [if_neg z] at hb2
        have := r4 y
        omega
      have hq' : ∀ j', j = j' + 1 → nI (10 ^ j / 10) = nI (10 ^ j') := fun j' e => by
        rw [e, Nat.pow_succ, Nat.mul_div_cancel _ (by decide)]
      refine (u216_66).mpr ?_
      simp only [u216_0, u216_1, u216_3, u216_5, u216_8, u216_9, u216_12, u216_13, u216_14, u216_15, u216_16, u216_19, u216_20, u216_21, u216_22, u216_25, u216_28, u216_29, u216_30, u216_31, u216_32, u216_33, u216_35, u216_36, u216_39, u216_43, u216_44, u216_47, u216_49, u216_51, u216_52, u216_54, u216_57, u216_60, u216_61, u216_64, u216_68, u216_71, u216_72, u216_74, u216_75, u216_77, u216_78, u216_80, u216_81, u216_83, u216_84, u216_85, u216_88, u216_90, u216_91, u216_94, u216_95, u216_96, u216_97, u216_100, u216_101, u216_102, u216_104, u216_105, u216_108, u216_109, u216_112, u216_113, u216_114, u216_115, u216_116, u216_118, u216_120, u216_121, u216_123, u216_126, u216_129, ly_kd, ly_al, ly_fv0, ly_fv1, ly_fv2, ly_fv3, ly_fv4, ly_fk, ly_ra, ↓reduceIte, Option.toList, List.cons_append, List.nil_append, q_ski, q_skr, q_sku, if_true, if_false, not_false_eq_true, true_and, nj, z9, dv, rm, s6, show ¬ (10 : Int32) = 0 by decide]
      refine m_folds dg hc hr h12 h34 hs h92 h93 (fun μ2 f2 a2 => ?_)
      by_cases z : q_dg f j ≤ 2
      · have z' : ¬ (3 : Int32) ≤ nI (q_dg f j) := (show ¬ nI 3 ≤ nI (q_dg f j) from nI_ge (by omega) (by omega))
        rw [if_pos z] at ha2
        rw [if_pos z] at hb2
        have hn := q_cn_h hc (h12 z)
        have fc := fun x y l => q_f5_c (c := c) (r := r) (x := x) (y := y) (l := l) z
        have fb := fun i (hi : i < 16) => q_f5_b (nA := nA) (nB := nB) dg hc hr h12 h34 (hs i hi).1 (hs i hi).2.1 (hs i hi).2.2
        simp only [u216_0, u216_1, u216_3, u216_5, u216_8, u216_9, u216_12, u216_13, u216_14, u216_15, u216_16, u216_19, u216_20, u216_21, u216_22, u216_25, u216_28, u216_29, u216_30, u216_31, u216_32, u216_33, u216_35, u216_36, u216_39, u216_43, u216_44, u216_47, u216_49, u216_51, u216_52, u216_54, u216_57, u216_60, u216_61, u216_64, u216_68, u216_71, u216_72, u216_74, u216_75, u216_77, u216_78, u216_80, u216_81, u216_83, u216_84, u216_85, u216_88, u216_90, u216_91, u216_94, u216_95, u216_96, u216_97, u216_100, u216_101, u216_102, u216_104, u216_105, u216_108, u216_109, u216_112, u216_113, u216_114, u216_115, u216_116, u216_118, u216_120, u216_121, u216_123, u216_126, u216_129, ly_kd, ly_al, ly_fv0, ly_fv1, ly_fv2, ly_fv3, ly_fv4, ly_fk, ly_ra, ↓reduceIte, Option.toList, List.cons_append, List.nil_append, q_ski, q_skr, q_sku, if_true, if_false, not_false_eq_true, true_and, z', hc2, nn, sb_m1s, show ¬ (2 : Int32) = 0 by decide, show ¬ (10 : Int32) = 0 by decide]
        refine ih (c / 2) r (nA + 1) nB (fun i => (q_f5 (q_dg f j) c r (X i) (Y i) (L i)).2.2.1) (fun i => (q_f5 (q_dg f j) c r (X i) (Y i) (L i)).2.2.2.1) (fun i => (q_f5 (q_dg f j) c r (X i) (Y i) (L i)).2.2.2.2) μ2 (by omega) hn.1 hr (by omega) (by omega) (fun i hi => ?_) (fun i hi => ?_) (fun o a b => by rw [f2 o a b]; exact f1 o a b) (fun i hi => ?_) (fun i hi => (a2 i hi).2) _ hq' _ q_ski
        · have := fb i hi
          rw [(fc _ _ _).1, (fc _ _ _).2] at this
          exact this
        · rw [← E i hi]
          show _ = q_fd f j (q_f5 (q_dg f j) c r (X i) (Y i) (L i))
          congr 1
          conv => rhs; rw [show q_f5 (q_dg f j) c r (X i) (Y i) (L i) = ((q_f5 (q_dg f j) c r (X i) (Y i) (L i)).1, (q_f5 (q_dg f j) c r (X i) (Y i) (L i)).2.1, (q_f5 (q_dg f j) c r (X i) (Y i) (L i)).2.2.1, (q_f5 (q_dg f j) c r (X i) (Y i) (L i)).2.2.2.1, (q_f5 (q_dg f j) c r (X i) (Y i) (L i)).2.2.2.2) from rfl, (fc _ _ _).1, (fc _ _ _).2]
        · have := (a2 i hi).1
          unfold q_pil at this
          rw [(fc _ _ _).1] at this
          exact this
      · have z' : (3 : Int32) ≤ nI (q_dg f j) := (show nI 3 ≤ nI (q_dg f j) from nI_le (by omega) (by omega))
        rw [if_neg z] at ha2
        rw [if_neg z] at hb2
        have hn := q_cn_h hr (h34 z)
        have fc := fun x y l => q_f5_r (c := c) (r := r) (x := x) (y := y) (l := l) z
        have fb := fun i (hi : i < 16) => q_f5_b (nA := nA) (nB := nB) dg hc hr h12 h34 (hs i hi).1 (hs i hi).2.1 (hs i hi).2.2
        simp only [u216_0, u216_1, u216_3, u216_5, u216_8, u216_9, u216_12, u216_13, u216_14, u216_15, u216_16, u216_19, u216_20, u216_21, u216_22, u216_25, u216_28, u216_29, u216_30, u216_31, u216_32, u216_33, u216_35, u216_36, u216_39, u216_43, u216_44, u216_47, u216_49, u216_51, u216_52, u216_54, u216_57, u216_60, u216_61, u216_64, u216_68, u216_71, u216_72, u216_74, u216_75, u216_77, u216_78, u216_80, u216_81, u216_83, u216_84, u216_85, u216_88, u216_90, u216_91, u216_94, u216_95, u216_96, u216_97, u216_100, u216_101, u216_102, u216_104, u216_105, u216_108, u216_109, u216_112, u216_113, u216_114, u216_115, u216_116, u216_118, u216_120, u216_121, u216_123, u216_126, u216_129, ly_kd, ly_al, ly_fv0, ly_fv1, ly_fv2, ly_fv3, ly_fv4, ly_fk, ly_ra, ↓reduceIte, Option.toList, List.cons_append, List.nil_append, q_ski, q_skr, q_sku, if_true, if_false, not_false_eq_true, true_and, z', hr2, nn, sb_m1s, show ¬ (2 : Int32) = 0 by decide, show ¬ (10 : Int32) = 0 by decide]
        refine ih c (r / 2) nA (nB + 1) (fun i => (q_f5 (q_dg f j) c r (X i) (Y i) (L i)).2.2.1) (fun i => (q_f5 (q_dg f j) c r (X i) (Y i) (L i)).2.2.2.1) (fun i => (q_f5 (q_dg f j) c r (X i) (Y i) (L i)).2.2.2.2) μ2 (by omega) hc hn.1 (by omega) (by omega) (fun i hi => ?_) (fun i hi => ?_) (fun o a b => by rw [f2 o a b]; exact f1 o a b) (fun i hi => ?_) (fun i hi => (a2 i hi).2) _ hq' _ q_ski
        · have := fb i hi
          rw [(fc _ _ _).1, (fc _ _ _).2] at this
          exact this
        · rw [← E i hi]
          show _ = q_fd f j (q_f5 (q_dg f j) c r (X i) (Y i) (L i))
          congr 1
          conv => rhs; rw [show q_f5 (q_dg f j) c r (X i) (Y i) (L i) = ((q_f5 (q_dg f j) c r (X i) (Y i) (L i)).1, (q_f5 (q_dg f j) c r (X i) (Y i) (L i)).2.1, (q_f5 (q_dg f j) c r (X i) (Y i) (L i)).2.2.1, (q_f5 (q_dg f j) c r (X i) (Y i) (L i)).2.2.2.1, (q_f5 (q_dg f j) c r (X i) (Y i) (L i)).2.2.2.2) from rfl, (fc _ _ _).1, (fc _ _ _).2]
        · have := (a2 i hi).1
          unfold q_pil at this
          rw [(fc _ _ _).1] at this
          exact this
  have at66 : ∀ (μ1 : gM) (q : Int32), (∀ o, o ≠ 92 → o ≠ 93 → μ1 o = μ o) → (∀ i, i < 16 → μ1 92 i = nI i ∧ μ1 93 i = 0) → (∀ j', k = j' + 1 → q = nI (10 ^ j')) → ∀ l6, gc_sk l6 = true → gc_W (gc_S (d+1)) cX12_foldsAll 12 2 R 66 [.ref 83, .int (nI f), .int 4, .int 4, .int q, .int (nI k), l6] [] μ1 := fun μ1 q f1 a1 hq l6 s6 =>
    three k 4 4 0 0 (fun i => i % 4) (fun i => i / 4) (fun _ => 0) μ1 (Nat.le_refl _) (.inl ⟨rfl, rfl⟩) (.inl ⟨rfl, rfl⟩) (by omega) (by omega) (fun i hi => ⟨by omega, by omega, by decide⟩) (fun i hi => rfl) f1 (fun i hi => by rw [(a1 i hi).1]; congr 1; omega) (fun i hi => (a1 i hi).2) q hq l6 s6
  have two : ∀ m e (μ1 : gM), e + m + 1 = k → (∀ o, o ≠ 92 → o ≠ 93 → μ1 o = μ o) → (∀ i, i < 16 → μ1 92 i = nI i ∧ μ1 93 i = 0) → ∀ l6, gc_sk l6 = true → gc_W (gc_S (d+1)) cX12_foldsAll 12 2 R 41 [.ref 83, .int (nI f), .int 4, .int 4, .int (nI (10 ^ e)), .int (nI (m + 1)), l6] [] μ1 := by
    intro m
    induction m with
    | zero =>
      intro e μ1 he f1 a1 l6 s6
      refine (u216_41).mpr ?_
      simp only [u216_0, u216_1, u216_3, u216_5, u216_8, u216_9, u216_12, u216_13, u216_14, u216_15, u216_16, u216_19, u216_20, u216_21, u216_22, u216_25, u216_28, u216_29, u216_30, u216_31, u216_32, u216_33, u216_35, u216_36, u216_39, u216_43, u216_44, u216_47, u216_49, u216_51, u216_52, u216_54, u216_57, u216_60, u216_61, u216_64, u216_68, u216_71, u216_72, u216_74, u216_75, u216_77, u216_78, u216_80, u216_81, u216_83, u216_84, u216_85, u216_88, u216_90, u216_91, u216_94, u216_95, u216_96, u216_97, u216_100, u216_101, u216_102, u216_104, u216_105, u216_108, u216_109, u216_112, u216_113, u216_114, u216_115, u216_116, u216_118, u216_120, u216_121, u216_123, u216_126, u216_129, ly_kd, ly_al, ly_fv0, ly_fv1, ly_fv2, ly_fv3, ly_fv4, ly_fk, ly_ra, ↓reduceIte, Option.toList, List.cons_append, List.nil_append, q_ski, q_skr, q_sku, if_true, if_false, not_false_eq_true, true_and, show nI (0 + 1) ≤ 1 by decide]
      refine m_digits hk h1 h2 ?_
      simp only [u216_0, u216_1, u216_3, u216_5, u216_8, u216_9, u216_12, u216_13, u216_14, u216_15, u216_16, u216_19, u216_20, u216_21, u216_22, u216_25, u216_28, u216_29, u216_30, u216_31, u216_32, u216_33, u216_35, u216_36, u216_39, u216_43, u216_44, u216_47, u216_49, u216_51, u216_52, u216_54, u216_57, u216_60, u216_61, u216_64, u216_68, u216_71, u216_72, u216_74, u216_75, u216_77, u216_78, u216_80, u216_81, u216_83, u216_84, u216_85, u216_88, u216_90, u216_91, u216_94, u216_95, u216_96, u216_97, u216_100, u216_101, u216_102, u216_104, u216_105, u216_108, u216_109, u216_112, u216_113, u216_114, u216_115, u216_116, u216_118, u216_120, u216_121, u216_123, u216_126, u216_129, ly_kd, ly_al, ly_fv0, ly_fv1, ly_fv2, ly_fv3, ly_fv4, ly_fk, ly_ra, ↓reduceIte, Option.toList, List.cons_append, List.nil_append, q_ski, q_skr, q_sku, if_true, if_false, not_false_eq_true, true_and]
      exact at66 μ1 _ f1 a1 (fun j' hj' => by rw [show e = j' by omega]) _ s6
    | succ m ih =>
      intro e μ1 he f1 a1 l6 s6
      have m10 : nI (10 ^ e) * 10 = nI (10 ^ (e + 1)) := by rw [show (10 : Int32) = nI 10 from rfl, pk_mul, Nat.pow_succ]
      refine (u216_41).mpr ?_
      simp only [u216_0, u216_1, u216_3, u216_5, u216_8, u216_9, u216_12, u216_13, u216_14, u216_15, u216_16, u216_19, u216_20, u216_21, u216_22, u216_25, u216_28, u216_29, u216_30, u216_31, u216_32, u216_33, u216_35, u216_36, u216_39, u216_43, u216_44, u216_47, u216_49, u216_51, u216_52, u216_54, u216_57, u216_60, u216_61, u216_64, u216_68, u216_71, u216_72, u216_74, u216_75, u216_77, u216_78, u216_80, u216_81, u216_83, u216_84, u216_85, u216_88, u216_90, u216_91, u216_94, u216_95, u216_96, u216_97, u216_100, u216_101, u216_102, u216_104, u216_105, u216_108, u216_109, u216_112, u216_113, u216_114, u216_115, u216_116, u216_118, u216_120, u216_121, u216_123, u216_126, u216_129, ly_kd, ly_al, ly_fv0, ly_fv1, ly_fv2, ly_fv3, ly_fv4, ly_fk, ly_ra, ↓reduceIte, Option.toList, List.cons_append, List.nil_append, q_ski, q_skr, q_sku, if_true, if_false, not_false_eq_true, true_and, show ¬ nI (m + 1 + 1) ≤ 1 from (show ¬ nI (m + 1 + 1) ≤ nI 1 from nI_ge (by omega) (by omega)), m10, sb_m1s]
      exact ih (e + 1) μ1 (by omega) f1 a1 _ s6
  have one : ∀ m i (μ1 : gM), i + m = 16 → (∀ o, o ≠ 92 → o ≠ 93 → μ1 o = μ o) → (∀ j, j < i → μ1 92 j = nI j ∧ μ1 93 j = 0) → ∀ l3 l4 l5 l6, gc_sk l3 = true → gc_sk l4 = true → gc_sk l5 = true → gc_sk l6 = true → gc_W (gc_S (d+1)) cX12_foldsAll 12 2 R 2 [.ref 83, .int (nI f), .int (nI i), l3, l4, l5, l6] [] μ1 := by
    intro m
    induction m with
    | zero =>
      intro i μ1 hi f1 a1 l3 l4 l5 l6 s3 s4 s5 s6
      obtain rfl : i = 16 := hi
      refine (u216_2).mpr ?_
      simp only [u216_0, u216_1, u216_3, u216_5, u216_8, u216_9, u216_12, u216_13, u216_14, u216_15, u216_16, u216_19, u216_20, u216_21, u216_22, u216_25, u216_28, u216_29, u216_30, u216_31, u216_32, u216_33, u216_35, u216_36, u216_39, u216_43, u216_44, u216_47, u216_49, u216_51, u216_52, u216_54, u216_57, u216_60, u216_61, u216_64, u216_68, u216_71, u216_72, u216_74, u216_75, u216_77, u216_78, u216_80, u216_81, u216_83, u216_84, u216_85, u216_88, u216_90, u216_91, u216_94, u216_95, u216_96, u216_97, u216_100, u216_101, u216_102, u216_104, u216_105, u216_108, u216_109, u216_112, u216_113, u216_114, u216_115, u216_116, u216_118, u216_120, u216_121, u216_123, u216_126, u216_129, ly_kd, ly_al, ly_fv0, ly_fv1, ly_fv2, ly_fv3, ly_fv4, ly_fk, ly_ra, ↓reduceIte, Option.toList, List.cons_append, List.nil_append, q_ski, q_skr, q_sku, if_true, if_false, not_false_eq_true, true_and, show (16 : Int32) ≤ nI 16 by decide, s3, s4, s5]
      refine m_digits hk h1 h2 ?_
      simp only [u216_0, u216_1, u216_3, u216_5, u216_8, u216_9, u216_12, u216_13, u216_14, u216_15, u216_16, u216_19, u216_20, u216_21, u216_22, u216_25, u216_28, u216_29, u216_30, u216_31, u216_32, u216_33, u216_35, u216_36, u216_39, u216_43, u216_44, u216_47, u216_49, u216_51, u216_52, u216_54, u216_57, u216_60, u216_61, u216_64, u216_68, u216_71, u216_72, u216_74, u216_75, u216_77, u216_78, u216_80, u216_81, u216_83, u216_84, u216_85, u216_88, u216_90, u216_91, u216_94, u216_95, u216_96, u216_97, u216_100, u216_101, u216_102, u216_104, u216_105, u216_108, u216_109, u216_112, u216_113, u216_114, u216_115, u216_116, u216_118, u216_120, u216_121, u216_123, u216_126, u216_129, ly_kd, ly_al, ly_fv0, ly_fv1, ly_fv2, ly_fv3, ly_fv4, ly_fk, ly_ra, ↓reduceIte, Option.toList, List.cons_append, List.nil_append, q_ski, q_skr, q_sku, if_true, if_false, not_false_eq_true, true_and, s5]
      by_cases k0 : k = 0
      · subst k0
        refine (u216_41).mpr ?_
        simp only [u216_0, u216_1, u216_3, u216_5, u216_8, u216_9, u216_12, u216_13, u216_14, u216_15, u216_16, u216_19, u216_20, u216_21, u216_22, u216_25, u216_28, u216_29, u216_30, u216_31, u216_32, u216_33, u216_35, u216_36, u216_39, u216_43, u216_44, u216_47, u216_49, u216_51, u216_52, u216_54, u216_57, u216_60, u216_61, u216_64, u216_68, u216_71, u216_72, u216_74, u216_75, u216_77, u216_78, u216_80, u216_81, u216_83, u216_84, u216_85, u216_88, u216_90, u216_91, u216_94, u216_95, u216_96, u216_97, u216_100, u216_101, u216_102, u216_104, u216_105, u216_108, u216_109, u216_112, u216_113, u216_114, u216_115, u216_116, u216_118, u216_120, u216_121, u216_123, u216_126, u216_129, ly_kd, ly_al, ly_fv0, ly_fv1, ly_fv2, ly_fv3, ly_fv4, ly_fk, ly_ra, ↓reduceIte, Option.toList, List.cons_append, List.nil_append, q_ski, q_skr, q_sku, if_true, if_false, not_false_eq_true, true_and, show nI 0 ≤ 1 by decide]
        refine m_digits hk h1 h2 ?_
        simp only [u216_0, u216_1, u216_3, u216_5, u216_8, u216_9, u216_12, u216_13, u216_14, u216_15, u216_16, u216_19, u216_20, u216_21, u216_22, u216_25, u216_28, u216_29, u216_30, u216_31, u216_32, u216_33, u216_35, u216_36, u216_39, u216_43, u216_44, u216_47, u216_49, u216_51, u216_52, u216_54, u216_57, u216_60, u216_61, u216_64, u216_68, u216_71, u216_72, u216_74, u216_75, u216_77, u216_78, u216_80, u216_81, u216_83, u216_84, u216_85, u216_88, u216_90, u216_91, u216_94, u216_95, u216_96, u216_97, u216_100, u216_101, u216_102, u216_104, u216_105, u216_108, u216_109, u216_112, u216_113, u216_114, u216_115, u216_116, u216_118, u216_120, u216_121, u216_123, u216_126, u216_129, ly_kd, ly_al, ly_fv0, ly_fv1, ly_fv2, ly_fv3, ly_fv4, ly_fk, ly_ra, ↓reduceIte, Option.toList, List.cons_append, List.nil_append, q_ski, q_skr, q_sku, if_true, if_false, not_false_eq_true, true_and]
        exact at66 μ1 _ f1 a1 (fun j' hj' => absurd hj' (by omega)) _ s6
      · obtain ⟨m, rfl⟩ : ∃ m, k = m + 1 := ⟨k - 1, by omega⟩
        exact two m 0 μ1 (by omega) f1 a1 _ s6
    | succ m ih =>
      intro i μ1 hi f1 a1 l3 l4 l5 l6 s3 s4 s5 s6
      refine (u216_2).mpr ?_
      simp only [u216_0, u216_1, u216_3, u216_5, u216_8, u216_9, u216_12, u216_13, u216_14, u216_15, u216_16, u216_19, u216_20, u216_21, u216_22, u216_25, u216_28, u216_29, u216_30, u216_31, u216_32, u216_33, u216_35, u216_36, u216_39, u216_43, u216_44, u216_47, u216_49, u216_51, u216_52, u216_54, u216_57, u216_60, u216_61, u216_64, u216_68, u216_71, u216_72, u216_74, u216_75, u216_77, u216_78, u216_80, u216_81, u216_83, u216_84, u216_85, u216_88, u216_90, u216_91, u216_94, u216_95, u216_96, u216_97, u216_100, u216_101, u216_102, u216_104, u216_105, u216_108, u216_109, u216_112, u216_113, u216_114, u216_115, u216_116, u216_118, u216_120, u216_121, u216_123, u216_126, u216_129, ly_kd, ly_al, ly_fv0, ly_fv1, ly_fv2, ly_fv3, ly_fv4, ly_fk, ly_ra, ↓reduceIte, Option.toList, List.cons_append, List.nil_append, q_ski, q_skr, q_sku, if_true, if_false, not_false_eq_true, true_and, show ¬ (16 : Int32) ≤ nI i from (show ¬ nI 16 ≤ nI i from nI_ge (by omega) (by omega)), vp_in_nI (show i < 16 by omega) (by decide), nI_clamp (show i < 2 ^ 31 by omega), true_and, nI_1]
      refine ih (i + 1) _ (by omega) (fun o a b => by rw [gc_up_ne b, gc_up_ne a]; exact f1 o a b) (fun j hj => ?_) _ _ _ _ s3 s4 s5 s6
      by_cases z : j = i
      · subst z; rw [q_up_o (by omega), q_up_same, q_up_same]; exact ⟨rfl, rfl⟩
      · rw [q_up_o (by omega), q_up_j z, q_up_j z, q_up_o (by omega)]; exact a1 j (by omega)
  simp only [s216, u216_0, u216_1, u216_3, u216_5, u216_8, u216_9, u216_12, u216_13, u216_14, u216_15, u216_16, u216_19, u216_20, u216_21, u216_22, u216_25, u216_28, u216_29, u216_30, u216_31, u216_32, u216_33, u216_35, u216_36, u216_39, u216_43, u216_44, u216_47, u216_49, u216_51, u216_52, u216_54, u216_57, u216_60, u216_61, u216_64, u216_68, u216_71, u216_72, u216_74, u216_75, u216_77, u216_78, u216_80, u216_81, u216_83, u216_84, u216_85, u216_88, u216_90, u216_91, u216_94, u216_95, u216_96, u216_97, u216_100, u216_101, u216_102, u216_104, u216_105, u216_108, u216_109, u216_112, u216_113, u216_114, u216_115, u216_116, u216_118, u216_120, u216_121, u216_123, u216_126, u216_129, ly_kd, ly_al, ly_fv0, ly_fv1, ly_fv2, ly_fv3, ly_fv4, ly_fk, ly_ra, ↓reduceIte, Option.toList, List.cons_append, List.nil_append, q_ski, q_skr, q_sku, if_true, if_false, not_false_eq_true, true_and]
  exact one 16 0 μ rfl (fun _ _ _ => rfl) (fun j hj => absurd hj (by omega)) _ _ _ _ q_sku q_sku q_sku q_sku
