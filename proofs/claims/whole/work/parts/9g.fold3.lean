/-! foldings: the reference -/
theorem q_p10u {a b : Nat} (h : a < b) : 10 * 10 ^ a ≤ 10 ^ b := by
  have : 10 ^ (a + 1) ≤ 10 ^ b := Nat.pow_le_pow_right (by decide) h
  rw [Nat.pow_succ] at this; omega
theorem q_vf_u {f i k : Nat} (h1 : 10 ^ i ≤ f) (h2 : f < 2 * 10 ^ i) (g : q_vf f k) : k = i := by
  obtain ⟨g1, g2, g3, -⟩ := g
  rcases Nat.lt_trichotomy k i with e | e | e
  · have := q_p10u e; omega
  · exact e
  · have := q_p10u e; omega
theorem q_cAB {f : Nat} : ∀ i, q_cA f i + q_cB f i = i
  | 0 => rfl
  | i + 1 => by
    have := q_cAB (f := f) i
    rw [q_cA_s, q_cB_s]
    by_cases z : q_dg f i ≤ 2
    · rw [if_pos z, if_pos z]; omega
    · rw [if_neg z, if_neg z]; omega
theorem q_dv1 {f i : Nat} : f / 10 ^ i / 10 = f / 10 ^ (i + 1) := by rw [Nat.div_div_eq_div_mul, Nat.pow_succ]
set_option maxHeartbeats 1000000 in
theorem m_isFolding {d : Nat} {R : gR} {μ : gM} {p : Int32} (h1 : ∀ f k, p = nI f → q_vf f k → R (some (.int 1)) μ) (h0 : (∀ f k, p = nI f → ¬ q_vf f k) → R (some (.int 0)) μ) : gc_S (d + 1) 213 [.int p] μ R := by
  simp only [s213, u213_0, u213_1, u213_2, u213_3, u213_4, u213_5, u213_7, u213_8, u213_11, u213_12, u213_14, u213_15, u213_17, u213_19, u213_20, u213_23, u213_25, u213_26, u213_29, u213_30, u213_31, u213_32, u213_34, u213_35, u213_38, u213_39, u213_42, u213_43, u213_44, u213_45, u213_46, u213_48, u213_49, u213_52, u213_53, u213_56, u213_57, u213_58, u213_59, u213_60, u213_62, u213_63, u213_64, u213_67, u213_68, u213_69, u213_72, u213_73, u213_74, u213_77, u213_78, u213_79, u213_82, u213_83, u213_86, u213_89, u213_90, u213_93, u213_94, ly_kd, ly_al, ly_fv0, ly_fv1, ly_fv2, ly_fv3, ly_fv4, ly_fk, ly_ra, ↓reduceIte, Option.toList, List.cons_append, List.nil_append, q_ski, q_skr, q_sku, if_true, if_false, not_false_eq_true]
  by_cases p1 : p ≤ 1
  · refine (u213_6).mpr ?_
    by_cases e : p = 1
    · simp only [u213_0, u213_1, u213_2, u213_3, u213_4, u213_5, u213_7, u213_8, u213_11, u213_12, u213_14, u213_15, u213_17, u213_19, u213_20, u213_23, u213_25, u213_26, u213_29, u213_30, u213_31, u213_32, u213_34, u213_35, u213_38, u213_39, u213_42, u213_43, u213_44, u213_45, u213_46, u213_48, u213_49, u213_52, u213_53, u213_56, u213_57, u213_58, u213_59, u213_60, u213_62, u213_63, u213_64, u213_67, u213_68, u213_69, u213_72, u213_73, u213_74, u213_77, u213_78, u213_79, u213_82, u213_83, u213_86, u213_89, u213_90, u213_93, u213_94, ly_kd, ly_al, ly_fv0, ly_fv1, ly_fv2, ly_fv3, ly_fv4, ly_fk, ly_ra, ↓reduceIte, Option.toList, List.cons_append, List.nil_append, q_ski, q_skr, q_sku, if_true, if_false, not_false_eq_true, p1, e, show (1 : Int32) ≤ 1 by decide, show ¬ (3 : Int32) ≤ 0 by decide, show ¬ (100000 : Int32) ≤ 1 by decide, or_true, true_or, true_and]
      exact h1 1 0 e ⟨by decide, by decide, by decide, fun i hi => absurd hi (by omega), by decide, by decide⟩
    · simp only [u213_0, u213_1, u213_2, u213_3, u213_4, u213_5, u213_7, u213_8, u213_11, u213_12, u213_14, u213_15, u213_17, u213_19, u213_20, u213_23, u213_25, u213_26, u213_29, u213_30, u213_31, u213_32, u213_34, u213_35, u213_38, u213_39, u213_42, u213_43, u213_44, u213_45, u213_46, u213_48, u213_49, u213_52, u213_53, u213_56, u213_57, u213_58, u213_59, u213_60, u213_62, u213_63, u213_64, u213_67, u213_68, u213_69, u213_72, u213_73, u213_74, u213_77, u213_78, u213_79, u213_82, u213_83, u213_86, u213_89, u213_90, u213_93, u213_94, ly_kd, ly_al, ly_fv0, ly_fv1, ly_fv2, ly_fv3, ly_fv4, ly_fk, ly_ra, ↓reduceIte, Option.toList, List.cons_append, List.nil_append, q_ski, q_skr, q_sku, if_true, if_false, not_false_eq_true, p1, e, or_true, true_or, true_and]
      refine h0 (fun f k e2 v => ?_)
      have v3 := q_lt31 v.1 v.2.2.1
      have v2 : 1 ≤ f := Nat.le_trans (Nat.pow_pos (by decide)) v.2.1
      rw [e2] at p1 e
      by_cases z : f = 1
      · exact e (by rw [z]; rfl)
      · exact absurd p1 (show ¬ nI f ≤ nI 1 from nI_ge (by omega) (by omega))
  · obtain ⟨f, hf, rfl⟩ := q_rng (p := p) (n := 2 ^ 31 - 1) (K := 2147483647) (by decide) ⟨Int32.le_of_lt (Int32.lt_trans (show (0 : Int32) < 1 by decide) (Int32.not_le.mp p1)), Int32.le_maxValue p⟩
    have bad : (∀ k, ¬ q_vf f k) → R (some (.int 0)) μ := fun hn => h0 (fun f' k e v => by
      have v3 := q_lt31 v.1 v.2.2.1
      obtain rfl : f = f' := (nI_eq (by omega) (by omega)).mp e
      exact hn k v)
    have main : ∀ N i, f / 10 ^ i < N → (∀ i', i' < i → 2 * 10 ^ i' ≤ f) → (∀ i', i' < i → 1 ≤ q_dg f i' ∧ q_dg f i' ≤ 4) → ∀ l4, gc_sk l4 = true → gc_W (gc_S (d)) cX12_isFolding 12 1 R 6 [.int (nI f), .int (nI (q_cA f i)), .int (nI (q_cB f i)), .int (nI (f / 10 ^ i)), l4] [] μ := by
      intro N
      induction N with
      | zero => intro i hN; exact absurd hN (Nat.not_lt_zero _)
      | succ N ih =>
        intro i hN hi hg l4 s4
        have i10 : i ≤ 10 := by
          by_cases z : i ≤ 10
          · exact z
          · have := hi 10 (by omega)
            have e10 : 10 ^ 10 = 10000000000 := by decide
            rw [e10] at this; omega
        have ab := q_cAB (f := f) i
        have g31 : f / 10 ^ i ≤ f := Nat.div_le_self _ _
        have pp : 0 < 10 ^ i := Nat.pow_pos (by decide)
        refine (u213_6).mpr ?_
        by_cases g1 : f / 10 ^ i ≤ 1
        · have g1' : nI (f / 10 ^ i) ≤ 1 := (show nI (f / 10 ^ i) ≤ nI 1 from nI_le g1 (by decide))
          by_cases e : f / 10 ^ i = 1
          · have k1 : 10 ^ i ≤ f := by
              have := Nat.mul_le_of_le_div (10 ^ i) 1 f (by omega); omega
            have k2 : f < 2 * 10 ^ i := by
              have : f / 10 ^ i < 2 := by omega
              have := (Nat.div_lt_iff_lt_mul pp).mp this; omega
            by_cases ha : q_cA f i ≤ 2
            · have ha' : ¬ (3 : Int32) ≤ nI (q_cA f i) := (show ¬ nI 3 ≤ nI (q_cA f i) from nI_ge (by omega) (by omega))
              by_cases hb : q_cB f i ≤ 2
              · have hb' : ¬ (3 : Int32) ≤ nI (q_cB f i) := (show ¬ nI 3 ≤ nI (q_cB f i) from nI_ge (by omega) (by omega))
                have v : q_vf f i := ⟨by omega, k1, k2, hg, ha, hb⟩
                have := q_lt31 v.1 k2
                have h5 : ¬ (100000 : Int32) ≤ nI f := (show ¬ nI 100000 ≤ nI f from nI_ge (by omega) (by omega))
                simp only [u213_0, u213_1, u213_2, u213_3, u213_4, u213_5, u213_7, u213_8, u213_11, u213_12, u213_14, u213_15, u213_17, u213_19, u213_20, u213_23, u213_25, u213_26, u213_29, u213_30, u213_31, u213_32, u213_34, u213_35, u213_38, u213_39, u213_42, u213_43, u213_44, u213_45, u213_46, u213_48, u213_49, u213_52, u213_53, u213_56, u213_57, u213_58, u213_59, u213_60, u213_62, u213_63, u213_64, u213_67, u213_68, u213_69, u213_72, u213_73, u213_74, u213_77, u213_78, u213_79, u213_82, u213_83, u213_86, u213_89, u213_90, u213_93, u213_94, ly_kd, ly_al, ly_fv0, ly_fv1, ly_fv2, ly_fv3, ly_fv4, ly_fk, ly_ra, ↓reduceIte, Option.toList, List.cons_append, List.nil_append, q_ski, q_skr, q_sku, if_true, if_false, not_false_eq_true, g1', e, show nI 1 = 1 from rfl, ha', hb', h5, or_true, true_or, true_and]
                exact h1 f i rfl v
              · have hb' : (3 : Int32) ≤ nI (q_cB f i) := (show nI 3 ≤ nI (q_cB f i) from nI_le (by omega) (by omega))
                simp only [u213_0, u213_1, u213_2, u213_3, u213_4, u213_5, u213_7, u213_8, u213_11, u213_12, u213_14, u213_15, u213_17, u213_19, u213_20, u213_23, u213_25, u213_26, u213_29, u213_30, u213_31, u213_32, u213_34, u213_35, u213_38, u213_39, u213_42, u213_43, u213_44, u213_45, u213_46, u213_48, u213_49, u213_52, u213_53, u213_56, u213_57, u213_58, u213_59, u213_60, u213_62, u213_63, u213_64, u213_67, u213_68, u213_69, u213_72, u213_73, u213_74, u213_77, u213_78, u213_79, u213_82, u213_83, u213_86, u213_89, u213_90, u213_93, u213_94, ly_kd, ly_al, ly_fv0, ly_fv1, ly_fv2, ly_fv3, ly_fv4, ly_fk, ly_ra, ↓reduceIte, Option.toList, List.cons_append, List.nil_append, q_ski, q_skr, q_sku, if_true, if_false, not_false_eq_true, g1', e, show nI 1 = 1 from rfl, ha', hb', or_true, true_or, true_and]
                exact bad (fun k v => by have := q_vf_u k1 k2 v; rw [this] at v; exact hb v.2.2.2.2.2)
            · have ha' : (3 : Int32) ≤ nI (q_cA f i) := (show nI 3 ≤ nI (q_cA f i) from nI_le (by omega) (by omega))
              simp only [u213_0, u213_1, u213_2, u213_3, u213_4, u213_5, u213_7, u213_8, u213_11, u213_12, u213_14, u213_15, u213_17, u213_19, u213_20, u213_23, u213_25, u213_26, u213_29, u213_30, u213_31, u213_32, u213_34, u213_35, u213_38, u213_39, u213_42, u213_43, u213_44, u213_45, u213_46, u213_48, u213_49, u213_52, u213_53, u213_56, u213_57, u213_58, u213_59, u213_60, u213_62, u213_63, u213_64, u213_67, u213_68, u213_69, u213_72, u213_73, u213_74, u213_77, u213_78, u213_79, u213_82, u213_83, u213_86, u213_89, u213_90, u213_93, u213_94, ly_kd, ly_al, ly_fv0, ly_fv1, ly_fv2, ly_fv3, ly_fv4, ly_fk, ly_ra, ↓reduceIte, Option.toList, List.cons_append, List.nil_append, q_ski, q_skr, q_sku, if_true, if_false, not_false_eq_true, g1', e, show nI 1 = 1 from rfl, ha', or_true, true_or, true_and]
              exact bad (fun k v => by have := q_vf_u k1 k2 v; rw [this] at v; exact ha v.2.2.2.2.1)
          · have e0 : f / 10 ^ i = 0 := by
              rcases Nat.le_one_iff_eq_zero_or_eq_one.mp g1 with z | z
              · exact z
              · exact absurd z e
            simp only [u213_0, u213_1, u213_2, u213_3, u213_4, u213_5, u213_7, u213_8, u213_11, u213_12, u213_14, u213_15, u213_17, u213_19, u213_20, u213_23, u213_25, u213_26, u213_29, u213_30, u213_31, u213_32, u213_34, u213_35, u213_38, u213_39, u213_42, u213_43, u213_44, u213_45, u213_46, u213_48, u213_49, u213_52, u213_53, u213_56, u213_57, u213_58, u213_59, u213_60, u213_62, u213_63, u213_64, u213_67, u213_68, u213_69, u213_72, u213_73, u213_74, u213_77, u213_78, u213_79, u213_82, u213_83, u213_86, u213_89, u213_90, u213_93, u213_94, ly_kd, ly_al, ly_fv0, ly_fv1, ly_fv2, ly_fv3, ly_fv4, ly_fk, ly_ra, ↓reduceIte, Option.toList, List.cons_append, List.nil_append, q_ski, q_skr, q_sku, if_true, if_false, not_false_eq_true, g1', e0, show ¬ nI 0 = 1 by decide, or_true, true_or, true_and]
            refine bad (fun k v => ?_)
            have k2 : f < 10 ^ i := by
              have : f / 10 ^ i < 1 := by omega
              have := (Nat.div_lt_iff_lt_mul pp).mp this; omega
            have v2 := v.2.1
            have v3 := v.2.2.1
            by_cases z : k < i
            · have := hi k z; omega
            · have : 10 ^ i ≤ 10 ^ k := Nat.pow_le_pow_right (by decide) (by omega)
              omega
        · have g1' : ¬ nI (f / 10 ^ i) ≤ 1 := (show ¬ nI (f / 10 ^ i) ≤ nI 1 from nI_ge (by omega) (by omega))
          have k2 : 2 * 10 ^ i ≤ f := by
            have := Nat.mul_le_of_le_div (10 ^ i) 2 f (by omega); omega
          have rm : nI (f / 10 ^ i) - nI (f / 10 ^ i) / 10 * 10 = nI (q_dg f i) := pk_rem (by omega) (by decide) (by decide)
          have dv : nI (f / 10 ^ i) / 10 = nI (f / 10 ^ (i + 1)) := by rw [← q_dv1]; exact pk_div (by omega) (by decide) (by decide)
          have rm : nI (f / 10 ^ i) - nI (f / 10 ^ (i + 1)) * 10 = nI (q_dg f i) := by rw [← dv]; exact rm
          have d10 : q_dg f i < 10 := Nat.mod_lt _ (by decide)
          have hi2 : ∀ i', i' < i + 1 → 2 * 10 ^ i' ≤ f := fun i' h => by
            by_cases z : i' = i
            · rw [z]; exact k2
            · exact hi i' (by omega)
          have no : ¬ (1 ≤ q_dg f i ∧ q_dg f i ≤ 4) → ∀ k, ¬ q_vf f k := fun hn k v => by
            have v3 := v.2.2.1
            by_cases z : i < k
            · exact hn (v.2.2.2.1 i z)
            · have := hi2 k (by omega); omega
          by_cases d1 : q_dg f i < 1
          · simp only [u213_0, u213_1, u213_2, u213_3, u213_4, u213_5, u213_7, u213_8, u213_11, u213_12, u213_14, u213_15, u213_17, u213_19, u213_20, u213_23, u213_25, u213_26, u213_29, u213_30, u213_31, u213_32, u213_34, u213_35, u213_38, u213_39, u213_42, u213_43, u213_44, u213_45, u213_46, u213_48, u213_49, u213_52, u213_53, u213_56, u213_57, u213_58, u213_59, u213_60, u213_62, u213_63, u213_64, u213_67, u213_68, u213_69, u213_72, u213_73, u213_74, u213_77, u213_78, u213_79, u213_82, u213_83, u213_86, u213_89, u213_90, u213_93, u213_94, ly_kd, ly_al, ly_fv0, ly_fv1, ly_fv2, ly_fv3, ly_fv4, ly_fk, ly_ra, ↓reduceIte, Option.toList, List.cons_append, List.nil_append, q_ski, q_skr, q_sku, if_true, if_false, not_false_eq_true, true_and, g1', rm, dv, s4, show nI (q_dg f i) < 1 from (show nI (q_dg f i) < nI 1 from nI_lt d1 (by omega)), show ¬ (10 : Int32) = 0 by decide, or_true, true_or, true_and]
            exact bad (no (fun z => by omega))
          · have d1' : ¬ nI (q_dg f i) < 1 := (show ¬ nI (q_dg f i) < nI 1 from nI_nlt (by omega) (by omega))
            by_cases d4 : q_dg f i ≤ 4
            · have d4' : nI (q_dg f i) ≤ 4 := (show nI (q_dg f i) ≤ nI 4 from nI_le d4 (by omega))
              have hg2 : ∀ i', i' < i + 1 → 1 ≤ q_dg f i' ∧ q_dg f i' ≤ 4 := fun i' h => by
                by_cases z : i' = i
                · rw [z]; omega
                · exact hg i' (by omega)
              have lt : f / 10 ^ (i + 1) < N := by
                rw [← q_dv1]; omega
              have nx := ih (i + 1) lt hi2 hg2 (.int (nI (q_dg f i))) q_ski
              rw [q_cA_s, q_cB_s] at nx
              by_cases d2 : q_dg f i ≤ 2
              · have d3' : ¬ (3 : Int32) ≤ nI (q_dg f i) := (show ¬ nI 3 ≤ nI (q_dg f i) from nI_ge (by omega) (by omega))
                rw [if_pos d2, if_pos d2] at nx
                simp only [u213_0, u213_1, u213_2, u213_3, u213_4, u213_5, u213_7, u213_8, u213_11, u213_12, u213_14, u213_15, u213_17, u213_19, u213_20, u213_23, u213_25, u213_26, u213_29, u213_30, u213_31, u213_32, u213_34, u213_35, u213_38, u213_39, u213_42, u213_43, u213_44, u213_45, u213_46, u213_48, u213_49, u213_52, u213_53, u213_56, u213_57, u213_58, u213_59, u213_60, u213_62, u213_63, u213_64, u213_67, u213_68, u213_69, u213_72, u213_73, u213_74, u213_77, u213_78, u213_79, u213_82, u213_83, u213_86, u213_89, u213_90, u213_93, u213_94, ly_kd, ly_al, ly_fv0, ly_fv1, ly_fv2, ly_fv3, ly_fv4, ly_fk, ly_ra, ↓reduceIte, Option.toList, List.cons_append, List.nil_append, q_ski, q_skr, q_sku, if_true, if_false, not_false_eq_true, true_and, g1', rm, dv, s4, d1', d4', d3', show ¬ (10 : Int32) = 0 by decide, Int32.add_zero, nI_1]
                exact nx
              · have d3' : (3 : Int32) ≤ nI (q_dg f i) := (show nI 3 ≤ nI (q_dg f i) from nI_le (by omega) (by omega))
                rw [if_neg d2, if_neg d2] at nx
                simp only [u213_0, u213_1, u213_2, u213_3, u213_4, u213_5, u213_7, u213_8, u213_11, u213_12, u213_14, u213_15, u213_17, u213_19, u213_20, u213_23, u213_25, u213_26, u213_29, u213_30, u213_31, u213_32, u213_34, u213_35, u213_38, u213_39, u213_42, u213_43, u213_44, u213_45, u213_46, u213_48, u213_49, u213_52, u213_53, u213_56, u213_57, u213_58, u213_59, u213_60, u213_62, u213_63, u213_64, u213_67, u213_68, u213_69, u213_72, u213_73, u213_74, u213_77, u213_78, u213_79, u213_82, u213_83, u213_86, u213_89, u213_90, u213_93, u213_94, ly_kd, ly_al, ly_fv0, ly_fv1, ly_fv2, ly_fv3, ly_fv4, ly_fk, ly_ra, ↓reduceIte, Option.toList, List.cons_append, List.nil_append, q_ski, q_skr, q_sku, if_true, if_false, not_false_eq_true, true_and, g1', rm, dv, s4, d1', d4', d3', show ¬ (10 : Int32) = 0 by decide, Int32.add_zero, nI_1]
                exact nx
            · simp only [u213_0, u213_1, u213_2, u213_3, u213_4, u213_5, u213_7, u213_8, u213_11, u213_12, u213_14, u213_15, u213_17, u213_19, u213_20, u213_23, u213_25, u213_26, u213_29, u213_30, u213_31, u213_32, u213_34, u213_35, u213_38, u213_39, u213_42, u213_43, u213_44, u213_45, u213_46, u213_48, u213_49, u213_52, u213_53, u213_56, u213_57, u213_58, u213_59, u213_60, u213_62, u213_63, u213_64, u213_67, u213_68, u213_69, u213_72, u213_73, u213_74, u213_77, u213_78, u213_79, u213_82, u213_83, u213_86, u213_89, u213_90, u213_93, u213_94, ly_kd, ly_al, ly_fv0, ly_fv1, ly_fv2, ly_fv3, ly_fv4, ly_fk, ly_ra, ↓reduceIte, Option.toList, List.cons_append, List.nil_append, q_ski, q_skr, q_sku, if_true, if_false, not_false_eq_true, true_and, g1', rm, dv, s4, d1', show ¬ nI (q_dg f i) ≤ 4 from (show ¬ nI (q_dg f i) ≤ nI 4 from nI_ge (by omega) (by omega)), show ¬ (10 : Int32) = 0 by decide, or_true, true_or, true_and]
              exact bad (no (fun z => d4 z.2))
    have m0 := main (f + 1) 0 (by rw [Nat.pow_zero, Nat.div_one]; omega) (fun i' h => absurd h (by omega)) (fun i' h => absurd h (by omega))
    rw [Nat.pow_zero, Nat.div_one] at m0
    exact m0 _ q_sku
theorem m_digits {d : Nat} {R : gR} {μ : gM} {f k : Nat} (hk : k ≤ 4) (h1 : 10 ^ k ≤ f) (h2 : f < 2 * 10 ^ k) (h : R (some (.int (nI k))) μ) : gc_S (d + 1) 214 [.int (nI f)] μ R := by
  have flt := q_lt31 hk h2
  have main : ∀ m i, i + m = k → gc_W (gc_S (d)) cX12_digits 12 0 R 4 [.int (nI f), .int (nI i), .int (nI (f / 10 ^ i))] [] μ := by
    intro m
    induction m with
    | zero =>
      intro i hi
      have hi : i = k := hi
      subst hi
      have e : f / 10 ^ i = 1 := by
        have a := (Nat.div_lt_iff_lt_mul (Nat.pow_pos (n := i) (show 0 < 10 by decide)) (x := f) (y := 2)).mpr h2
        have b := (Nat.le_div_iff_mul_le (Nat.pow_pos (n := i) (show 0 < 10 by decide)) (x := 1) (y := f)).mpr (by omega)
        omega
      refine (u214_4).mpr ?_
      simp only [u214_0, u214_1, u214_2, u214_3, u214_5, u214_6, u214_9, u214_12, u214_13, u214_15, u214_16, u214_17, u214_20, u214_21, ly_kd, ly_al, ly_fv0, ly_fv1, ly_fv2, ly_fv3, ly_fv4, ly_fk, ly_ra, ↓reduceIte, Option.toList, List.cons_append, List.nil_append, q_ski, q_skr, q_sku, if_true, if_false, not_false_eq_true, e, show nI 1 ≤ 1 by decide]
      exact h
    | succ m ih =>
      intro i hi
      have p := q_p10u (show i < k by omega)
      have b := (Nat.le_div_iff_mul_le (Nat.pow_pos (n := i) (show 0 < 10 by decide)) (x := 10) (y := f)).mpr (by omega)
      have le : f / 10 ^ i ≤ f := Nat.div_le_self _ _
      have dv : nI (f / 10 ^ i) / 10 = nI (f / 10 ^ (i + 1)) := by rw [← q_dv1]; exact pk_div (by omega) (by decide) (by decide)
      refine (u214_4).mpr ?_
      simp only [u214_0, u214_1, u214_2, u214_3, u214_5, u214_6, u214_9, u214_12, u214_13, u214_15, u214_16, u214_17, u214_20, u214_21, ly_kd, ly_al, ly_fv0, ly_fv1, ly_fv2, ly_fv3, ly_fv4, ly_fk, ly_ra, ↓reduceIte, Option.toList, List.cons_append, List.nil_append, q_ski, q_skr, q_sku, if_true, if_false, not_false_eq_true, true_and, show ¬ nI (f / 10 ^ i) ≤ 1 from (show ¬ nI (f / 10 ^ i) ≤ nI 1 from nI_ge (by omega) (by omega)), dv, nI_1, show ¬ (10 : Int32) = 0 by decide]
      exact ih (i + 1) (by omega)
  have m0 := main k 0 (by omega)
  rw [Nat.pow_zero, Nat.div_one] at m0
  simp only [s214, u214_0, u214_1, u214_2, u214_3, u214_5, u214_6, u214_9, u214_12, u214_13, u214_15, u214_16, u214_17, u214_20, u214_21, ly_kd, ly_al, ly_fv0, ly_fv1, ly_fv2, ly_fv3, ly_fv4, ly_fk, ly_ra, ↓reduceIte, Option.toList, List.cons_append, List.nil_append, q_ski, q_skr, q_sku, if_true, if_false, not_false_eq_true]
  exact m0
/-- a step keeps what it must -/
theorem q_f5_b {dd c r x y l nA nB : Nat} (hd : 1 ≤ dd ∧ dd ≤ 4) (hc : q_cn nA c) (hr : q_cn nB r) (h12 : dd ≤ 2 → ¬ c / 2 = 0) (h34 : ¬ dd ≤ 2 → ¬ r / 2 = 0) (hx : x < c) (hy : y < r) (hl : l < 16 / (c * r)) : (q_f5 dd c r x y l).2.2.1 < (q_f5 dd c r x y l).1 ∧ (q_f5 dd c r x y l).2.2.2.1 < (q_f5 dd c r x y l).2.1 ∧ (q_f5 dd c r x y l).2.2.2.2 < 16 / ((q_f5 dd c r x y l).1 * (q_f5 dd c r x y l).2.1) := by
  obtain ⟨t1, t2, t3, t4, -⟩ := q_cn_t hc hr
  rcases (show dd = 1 ∨ dd = 2 ∨ dd = 3 ∨ dd = 4 by omega) with rfl | rfl | rfl | rfl
  · have h0 := h12 (by decide)
    have k2 := (q_cn_h hc h0).2
    have tt := t3 h0
    by_cases g : x < c / 2
    · rw [q_f51t g]; dsimp only; rw [tt]; omega
    · rw [q_f51f g]; dsimp only; rw [tt]; omega
  · have h0 := h12 (by decide)
    have k2 := (q_cn_h hc h0).2
    have tt := t3 h0
    by_cases g : x < c / 2
    · rw [q_f52t g]; dsimp only; rw [tt]; omega
    · rw [q_f52f g]; dsimp only; rw [tt]; omega
  · have h0 := h34 (by decide)
    have k2 := (q_cn_h hr h0).2
    have tt := t4 h0
    by_cases g : y < r / 2
    · rw [q_f53t g]; dsimp only; rw [tt]; omega
    · rw [q_f53f g]; dsimp only; rw [tt]; omega
  · have h0 := h34 (by decide)
    have k2 := (q_cn_h hr h0).2
    have tt := t4 h0
    by_cases g : y < r / 2
    · rw [q_f54t g]; dsimp only; rw [tt]; omega
    · rw [q_f54f g]; dsimp only; rw [tt]; omega
theorem q_f5_c {dd c r x y l : Nat} (h : dd ≤ 2) : (q_f5 dd c r x y l).1 = c / 2 ∧ (q_f5 dd c r x y l).2.1 = r := by unfold q_f5; rw [if_pos h]; exact ⟨rfl, rfl⟩
theorem q_f5_r {dd c r x y l : Nat} (h : ¬ dd ≤ 2) : (q_f5 dd c r x y l).1 = c ∧ (q_f5 dd c r x y l).2.1 = r / 2 := by unfold q_f5; rw [if_neg h]; exact ⟨rfl, rfl⟩
set_option maxHeartbeats 40000000 in
theorem m_folds {d : Nat} {R : gR} {μ : gM} {dd c r nA nB : Nat} {X Y L : Nat → Nat} (hd : 1 ≤ dd ∧ dd ≤ 4) (hc : q_cn nA c) (hr : q_cn nB r) (h12 : dd ≤ 2 → ¬ c / 2 = 0) (h34 : ¬ dd ≤ 2 → ¬ r / 2 = 0) (hs : ∀ i, i < 16 → X i < c ∧ Y i < r ∧ L i < 16 / (c * r)) (h92 : ∀ i, i < 16 → μ 92 i = nI (Y i * c + X i)) (h93 : ∀ i, i < 16 → μ 93 i = nI (L i)) (h : ∀ μ', (∀ o, o ≠ 92 → o ≠ 93 → μ' o = μ o) → (∀ i, i < 16 → μ' 92 i = nI (q_pil (q_f5 dd c r (X i) (Y i) (L i))) ∧ μ' 93 i = nI (q_f5 dd c r (X i) (Y i) (L i)).2.2.2.2) → R none μ') : gc_S (d + 1) 215 [.ref 83, .int (nI dd), .int (nI c), .int (nI r)] μ R := by
  obtain ⟨c1, c2, c3, -⟩ := q_cn_4 hc
  obtain ⟨r1, r2, r3, -⟩ := q_cn_4 hr
  obtain ⟨t1, t2, t3, t4, t5⟩ := q_cn_t hc hr
  have cr : c * r ≤ 16 := by
    have : 1 * (c * r) ≤ 16 / (c * r) * (c * r) := Nat.mul_le_mul_right _ t1
    omega
  have cr0 : 0 < c * r := Nat.mul_pos c2 r2
  have one : (1 : Int32) = nI 1 := rfl
  have two : (2 : Int32) = nI 2 := rfl
  have zc : ¬ nI c = 0 := fun z => absurd ((nI_eq (by omega) (by decide)).mp (show nI c = nI 0 from z)) (by omega)
  have zcr : ¬ nI (c * r) = 0 := fun z => absurd ((nI_eq (by omega) (by decide)).mp (show nI (c * r) = nI 0 from z)) (by omega)
  have d16 : (16 : Int32) / nI (c * r) = nI (16 / (c * r)) := pk_div (a := 16) (by decide) cr0 (by omega)
  have hc2 : nI c / 2 = nI (c / 2) := pk_div (by omega) (by decide) (by decide)
  have hr2 : nI r / 2 = nI (r / 2) := pk_div (by omega) (by decide) (by decide)
  have z0 : ∀ q : Int32, q - 0 = q := Int32.sub_zero
  have main : ∀ m i, i + m = 16 → ∀ μ1 : gM, (∀ o, o ≠ 92 → o ≠ 93 → μ1 o = μ o) → (∀ j, i ≤ j → μ1 92 j = μ 92 j ∧ μ1 93 j = μ 93 j) → (∀ j, j < i → μ1 92 j = nI (q_pil (q_f5 dd c r (X j) (Y j) (L j))) ∧ μ1 93 j = nI (q_f5 dd c r (X j) (Y j) (L j)).2.2.2.2) → ∀ l6 l7 l8 l9 l10, gc_sk l6 = true → gc_sk l7 = true → gc_sk l8 = true → gc_sk l9 = true → gc_sk l10 = true → gc_W (gc_S (d)) cX12_folds 12 2 R 11 [.ref 83, .int (nI dd), .int (nI c), .int (nI r), .int (nI (16 / (c * r))), .int (nI i), l6, l7, l8, l9, l10] [] μ1 := by
    intro m
    induction m with
    | zero =>
      intro i hi μ1 f1 a1 b1 l6 l7 l8 l9 l10 s6 s7 s8 s9 s10
      obtain rfl : i = 16 := hi
      refine (u215_11).mpr ?_
      simp only [u215_0, u215_2, u215_3, u215_4, u215_5, u215_6, u215_8, u215_9, u215_13, u215_15, u215_18, u215_19, u215_22, u215_24, u215_25, u215_26, u215_27, u215_29, u215_30, u215_33, u215_35, u215_36, u215_37, u215_38, u215_40, u215_41, u215_42, u215_45, u215_47, u215_48, u215_49, u215_50, u215_53, u215_54, u215_57, u215_58, u215_61, u215_62, u215_63, u215_66, u215_68, u215_69, u215_70, u215_71, u215_74, u215_75, u215_78, u215_79, u215_82, u215_83, u215_84, u215_87, u215_89, u215_90, u215_91, u215_92, u215_95, u215_96, u215_99, u215_100, u215_103, u215_105, u215_106, u215_107, u215_108, u215_111, u215_112, u215_115, u215_116, u215_118, u215_119, u215_120, u215_123, u215_125, u215_128, u215_129, u215_130, u215_131, u215_133, u215_134, u215_137, u215_139, u215_141, u215_142, u215_143, u215_146, u215_148, u215_151, u215_152, u215_153, u215_154, u215_156, u215_157, u215_160, u215_162, u215_164, u215_166, u215_167, u215_168, u215_171, u215_172, u215_173, u215_174, u215_177, u215_178, u215_179, u215_181, u215_183, u215_184, u215_185, u215_188, u215_189, u215_190, u215_191, u215_194, u215_195, u215_196, u215_198, u215_199, u215_202, u215_204, u215_206, u215_207, u215_208, u215_211, u215_212, u215_213, u215_214, u215_217, u215_218, u215_219, u215_221, u215_222, u215_223, u215_224, u215_227, u215_229, u215_231, u215_234, u215_235, u215_237, u215_238, u215_239, u215_240, u215_241, u215_244, u215_246, u215_247, u215_248, u215_251, u215_252, u215_255, u215_257, u215_258, u215_259, u215_262, u215_265, ly_kd, ly_al, ly_fv0, ly_fv1, ly_fv2, ly_fv3, ly_fv4, ly_fk, ly_ra, ↓reduceIte, Option.toList, List.cons_append, List.nil_append, q_ski, q_skr, q_sku, if_true, if_false, not_false_eq_true, show (16 : Int32) ≤ nI 16 by decide]
      exact h μ1 f1 b1
    | succ m ih =>
      intro i hi μ1 f1 a1 b1 l6 l7 l8 l9 l10 s6 s7 s8 s9 s10
      have i16 : i < 16 := by omega
      obtain ⟨x1, y1, l1⟩ := hs i i16
      have e92 : μ1 92 i = nI (Y i * c + X i) := by rw [(a1 i (Nat.le_refl _)).1]; exact h92 i i16
      have e93 : ∀ q, gc_up μ1 92 i q 93 i = nI (L i) := fun q => by rw [q_up_o (by omega), (a1 i (Nat.le_refl _)).2]; exact h93 i i16
      have yc : Y i * c ≤ 3 * 4 := Nat.mul_le_mul (by omega) c3
      have vm : (Y i * c + X i) % c = X i := by rw [Nat.mul_comm, Nat.mul_add_mod, Nat.mod_eq_of_lt x1]
      have vd : (Y i * c + X i) / c = Y i := by rw [Nat.mul_comm, Nat.mul_add_div (by omega), Nat.div_eq_of_lt x1, Nat.add_zero]
      have rm : nI (Y i * c + X i) - nI (Y i * c + X i) / nI c * nI c = nI (X i) := by rw [pk_rem (by omega) (by omega) (by omega), vm]
      have dv : nI (Y i * c + X i) / nI c = nI (Y i) := by rw [pk_div (by omega) (by omega) (by omega), vd]
      have rm : nI (Y i * c + X i) - nI (Y i) * nI c = nI (X i) := by rw [← dv]; exact rm
      have fl2 : 2 * nI (16 / (c * r)) - 1 - nI (L i) = nI (2 * (16 / (c * r)) - 1 - L i) := by
        rw [two, pk_mul, one, pk_sub (by omega), pk_sub (by omega)]
      have vi := vp_in_nI (show i < 16 by omega) (by decide)
      have ci := nI_clamp (show i < 2 ^ 31 by omega)
      have nx : ∀ a b, nI a = nI (q_pil (q_f5 dd c r (X i) (Y i) (L i))) → nI b = nI (q_f5 dd c r (X i) (Y i) (L i)).2.2.2.2 → ∀ l6 l7 l8 l9 l10, gc_sk l6 = true → gc_sk l7 = true → gc_sk l8 = true → gc_sk l9 = true → gc_sk l10 = true → gc_W (gc_S (d)) cX12_folds 12 2 R 11 [.ref 83, .int (nI dd), .int (nI c), .int (nI r), .int (nI (16 / (c * r))), .int (nI (i + 1)), l6, l7, l8, l9, l10] [] (gc_up (gc_up μ1 92 i (nI a)) 93 i (nI b)) := fun a b ea eb => ih (i + 1) (by omega) _ (fun o h1 h2 => by rw [gc_up_ne h2, gc_up_ne h1]; exact f1 o h1 h2) (fun j hj => by rw [q_up_o (by omega), q_up_j (by omega), q_up_j (by omega), q_up_o (by omega)]; exact a1 j (by omega)) (fun j hj => by
          by_cases z : j = i
          · subst z; rw [q_up_o (by omega), q_up_same, q_up_same]; exact ⟨ea, eb⟩
          · rw [q_up_o (by omega), q_up_j z, q_up_j z, q_up_o (by omega)]; exact b1 j (by omega))
      refine (u215_11).mpr ?_
      rcases (show dd = 1 ∨ dd = 2 ∨ dd = 3 ∨ dd = 4 by omega) with rfl | rfl | rfl | rfl
      · have h0 := h12 (by decide)
        have k2 := (q_cn_h hc h0).2
        by_cases g : X i < c / 2
        · have f1 : nI c - 1 - nI (X i) = nI (2 * (c / 2) - 1 - X i) := by rw [one, pk_sub (by omega), pk_sub (by omega)]; congr 1; omega
          have f2 : nI (2 * (c / 2) - 1 - X i) - nI (c / 2) = nI (2 * (c / 2) - 1 - X i - c / 2) := pk_sub (by omega)
          have f3 : nI (Y i) * nI (c / 2) + nI (2 * (c / 2) - 1 - X i - c / 2) = nI (Y i * (c / 2) + (2 * (c / 2) - 1 - X i - c / 2)) := by rw [pk_mul, nI_add]
          have n1 := nx (Y i * (c / 2) + (2 * (c / 2) - 1 - X i - c / 2)) (2 * (16 / (c * r)) - 1 - L i) (by rw [q_f51t g] <;> rfl) (by rw [q_f51t g] <;> rfl)
          rw [show nI 1 = 1 from rfl] at n1 ⊢
          simp only [u215_0, u215_2, u215_3, u215_4, u215_5, u215_6, u215_8, u215_9, u215_13, u215_15, u215_18, u215_19, u215_22, u215_24, u215_25, u215_26, u215_27, u215_29, u215_30, u215_33, u215_35, u215_36, u215_37, u215_38, u215_40, u215_41, u215_42, u215_45, u215_47, u215_48, u215_49, u215_50, u215_53, u215_54, u215_57, u215_58, u215_61, u215_62, u215_63, u215_66, u215_68, u215_69, u215_70, u215_71, u215_74, u215_75, u215_78, u215_79, u215_82, u215_83, u215_84, u215_87, u215_89, u215_90, u215_91, u215_92, u215_95, u215_96, u215_99, u215_100, u215_103, u215_105, u215_106, u215_107, u215_108, u215_111, u215_112, u215_115, u215_116, u215_118, u215_119, u215_120, u215_123, u215_125, u215_128, u215_129, u215_130, u215_131, u215_133, u215_134, u215_137, u215_139, u215_141, u215_142, u215_143, u215_146, u215_148, u215_151, u215_152, u215_153, u215_154, u215_156, u215_157, u215_160, u215_162, u215_164, u215_166, u215_167, u215_168, u215_171, u215_172, u215_173, u215_174, u215_177, u215_178, u215_179, u215_181, u215_183, u215_184, u215_185, u215_188, u215_189, u215_190, u215_191, u215_194, u215_195, u215_196, u215_198, u215_199, u215_202, u215_204, u215_206, u215_207, u215_208, u215_211, u215_212, u215_213, u215_214, u215_217, u215_218, u215_219, u215_221, u215_222, u215_223, u215_224, u215_227, u215_229, u215_231, u215_234, u215_235, u215_237, u215_238, u215_239, u215_240, u215_241, u215_244, u215_246, u215_247, u215_248, u215_251, u215_252, u215_255, u215_257, u215_258, u215_259, u215_262, u215_265, ly_kd, ly_al, ly_fv0, ly_fv1, ly_fv2, ly_fv3, ly_fv4, ly_fk, ly_ra, ↓reduceIte, Option.toList, List.cons_append, List.nil_append, q_ski, q_skr, q_sku, if_true, if_false, not_false_eq_true, true_and, show ¬ (16 : Int32) ≤ nI i from (show ¬ nI 16 ≤ nI i from nI_ge i16 (by omega)), show ¬ nI (c / 2) ≤ nI (X i) from nI_ge g (by omega), rm, dv, hc2, hr2, vi, ci, true_and, e92, e93, z0, zc, s6, s7, s8, s9, s10, show ¬ (1 : Int32) = 2 by decide, show ¬ (1 : Int32) = 3 by decide, show  (1 : Int32) ≤ 2 by decide, show ¬ (3 : Int32) ≤ 1 by decide, f1, fl2, f2, f3, show ¬ (2 : Int32) = 0 by decide, show ¬ (1 : Int32) = 0 by decide, nI_1]
          exact n1 _ _ _ _ _ q_ski q_ski q_ski q_ski q_ski
        · have f2 : nI (X i) - nI (c / 2) = nI (X i - c / 2) := pk_sub (by omega)
          have f3 : nI (Y i) * nI (c / 2) + nI (X i - c / 2) = nI (Y i * (c / 2) + (X i - c / 2)) := by rw [pk_mul, nI_add]
          have n1 := nx (Y i * (c / 2) + (X i - c / 2)) (L i) (by rw [q_f51f g] <;> rfl) (by rw [q_f51f g] <;> rfl)
          rw [show nI 1 = 1 from rfl] at n1 ⊢
          simp only [u215_0, u215_2, u215_3, u215_4, u215_5, u215_6, u215_8, u215_9, u215_13, u215_15, u215_18, u215_19, u215_22, u215_24, u215_25, u215_26, u215_27, u215_29, u215_30, u215_33, u215_35, u215_36, u215_37, u215_38, u215_40, u215_41, u215_42, u215_45, u215_47, u215_48, u215_49, u215_50, u215_53, u215_54, u215_57, u215_58, u215_61, u215_62, u215_63, u215_66, u215_68, u215_69, u215_70, u215_71, u215_74, u215_75, u215_78, u215_79, u215_82, u215_83, u215_84, u215_87, u215_89, u215_90, u215_91, u215_92, u215_95, u215_96, u215_99, u215_100, u215_103, u215_105, u215_106, u215_107, u215_108, u215_111, u215_112, u215_115, u215_116, u215_118, u215_119, u215_120, u215_123, u215_125, u215_128, u215_129, u215_130, u215_131, u215_133, u215_134, u215_137, u215_139, u215_141, u215_142, u215_143, u215_146, u215_148, u215_151, u215_152, u215_153, u215_154, u215_156, u215_157, u215_160, u215_162, u215_164, u215_166, u215_167, u215_168, u215_171, u215_172, u215_173, u215_174, u215_177, u215_178, u215_179, u215_181, u215_183, u215_184, u215_185, u215_188, u215_189, u215_190, u215_191, u215_194, u215_195, u215_196, u215_198, u215_199, u215_202, u215_204, u215_206, u215_207, u215_208, u215_211, u215_212, u215_213, u215_214, u215_217, u215_218, u215_219, u215_221, u215_222, u215_223, u215_224, u215_227, u215_229, u215_231, u215_234, u215_235, u215_237, u215_238, u215_239, u215_240, u215_241, u215_244, u215_246, u215_247, u215_248, u215_251, u215_252, u215_255, u215_257, u215_258, u215_259, u215_262, u215_265, ly_kd, ly_al, ly_fv0, ly_fv1, ly_fv2, ly_fv3, ly_fv4, ly_fk, ly_ra, ↓reduceIte, Option.toList, List.cons_append, List.nil_append, q_ski, q_skr, q_sku, if_true, if_false, not_false_eq_true, true_and, show ¬ (16 : Int32) ≤ nI i from (show ¬ nI 16 ≤ nI i from nI_ge i16 (by omega)), show nI (c / 2) ≤ nI (X i) from nI_le (by omega) (by omega), rm, dv, hc2, hr2, vi, ci, true_and, e92, e93, z0, zc, s6, s7, s8, s9, s10, show ¬ (1 : Int32) = 2 by decide, show ¬ (1 : Int32) = 3 by decide, show  (1 : Int32) ≤ 2 by decide, show ¬ (3 : Int32) ≤ 1 by decide, f2, f3, show ¬ (2 : Int32) = 0 by decide, show ¬ (1 : Int32) = 0 by decide, nI_1]
          exact n1 _ _ _ _ _ q_ski q_ski q_ski q_ski q_ski
      · have h0 := h12 (by decide)
        have k2 := (q_cn_h hc h0).2
        by_cases g : X i < c / 2
        · have f3 : nI (Y i) * nI (c / 2) + nI (X i) = nI (Y i * (c / 2) + (X i)) := by rw [pk_mul, nI_add]
          have n1 := nx (Y i * (c / 2) + (X i)) (L i) (by rw [q_f52t g] <;> rfl) (by rw [q_f52t g] <;> rfl)
          rw [show nI 2 = 2 from rfl] at n1 ⊢
          simp only [u215_0, u215_2, u215_3, u215_4, u215_5, u215_6, u215_8, u215_9, u215_13, u215_15, u215_18, u215_19, u215_22, u215_24, u215_25, u215_26, u215_27, u215_29, u215_30, u215_33, u215_35, u215_36, u215_37, u215_38, u215_40, u215_41, u215_42, u215_45, u215_47, u215_48, u215_49, u215_50, u215_53, u215_54, u215_57, u215_58, u215_61, u215_62, u215_63, u215_66, u215_68, u215_69, u215_70, u215_71, u215_74, u215_75, u215_78, u215_79, u215_82, u215_83, u215_84, u215_87, u215_89, u215_90, u215_91, u215_92, u215_95, u215_96, u215_99, u215_100, u215_103, u215_105, u215_106, u215_107, u215_108, u215_111, u215_112, u215_115, u215_116, u215_118, u215_119, u215_120, u215_123, u215_125, u215_128, u215_129, u215_130, u215_131, u215_133, u215_134, u215_137, u215_139, u215_141, u215_142, u215_143, u215_146, u215_148, u215_151, u215_152, u215_153, u215_154, u215_156, u215_157, u215_160, u215_162, u215_164, u215_166, u215_167, u215_168, u215_171, u215_172, u215_173, u215_174, u215_177, u215_178, u215_179, u215_181, u215_183, u215_184, u215_185, u215_188, u215_189, u215_190, u215_191, u215_194, u215_195, u215_196, u215_198, u215_199, u215_202, u215_204, u215_206, u215_207, u215_208, u215_211, u215_212, u215_213, u215_214, u215_217, u215_218, u215_219, u215_221, u215_222, u215_223, u215_224, u215_227, u215_229, u215_231, u215_234, u215_235, u215_237, u215_238, u215_239, u215_240, u215_241, u215_244, u215_246, u215_247, u215_248, u215_251, u215_252, u215_255, u215_257, u215_258, u215_259, u215_262, u215_265, ly_kd, ly_al, ly_fv0, ly_fv1, ly_fv2, ly_fv3, ly_fv4, ly_fk, ly_ra, ↓reduceIte, Option.toList, List.cons_append, List.nil_append, q_ski, q_skr, q_sku, if_true, if_false, not_false_eq_true, true_and, show ¬ (16 : Int32) ≤ nI i from (show ¬ nI 16 ≤ nI i from nI_ge i16 (by omega)), show nI (X i) < nI (c / 2) from nI_lt g (by omega), rm, dv, hc2, hr2, vi, ci, true_and, e92, e93, z0, zc, s6, s7, s8, s9, s10, show ¬ (2 : Int32) = 1 by decide, show ¬ (2 : Int32) = 3 by decide, show  (2 : Int32) ≤ 2 by decide, show ¬ (3 : Int32) ≤ 2 by decide, f3, show ¬ (2 : Int32) = 0 by decide, show ¬ (1 : Int32) = 0 by decide, nI_1]
          exact n1 _ _ _ _ _ q_ski q_ski q_ski q_ski q_ski
        · have f1 : nI c - 1 - nI (X i) = nI (2 * (c / 2) - 1 - X i) := by rw [one, pk_sub (by omega), pk_sub (by omega)]; congr 1; omega
          have f3 : nI (Y i) * nI (c / 2) + nI (2 * (c / 2) - 1 - X i) = nI (Y i * (c / 2) + (2 * (c / 2) - 1 - X i)) := by rw [pk_mul, nI_add]
          have n1 := nx (Y i * (c / 2) + (2 * (c / 2) - 1 - X i)) (2 * (16 / (c * r)) - 1 - L i) (by rw [q_f52f g] <;> rfl) (by rw [q_f52f g] <;> rfl)
          rw [show nI 2 = 2 from rfl] at n1 ⊢
          simp only [u215_0, u215_2, u215_3, u215_4, u215_5, u215_6, u215_8, u215_9, u215_13, u215_15, u215_18, u215_19, u215_22, u215_24, u215_25, u215_26, u215_27, u215_29, u215_30, u215_33, u215_35, u215_36, u215_37, u215_38, u215_40, u215_41, u215_42, u215_45, u215_47, u215_48, u215_49, u215_50, u215_53, u215_54, u215_57, u215_58, u215_61, u215_62, u215_63, u215_66, u215_68, u215_69, u215_70, u215_71, u215_74, u215_75, u215_78, u215_79, u215_82, u215_83, u215_84, u215_87, u215_89, u215_90, u215_91, u215_92, u215_95, u215_96, u215_99, u215_100, u215_103, u215_105, u215_106, u215_107, u215_108, u215_111, u215_112, u215_115, u215_116, u215_118, u215_119, u215_120, u215_123, u215_125, u215_128, u215_129, u215_130, u215_131, u215_133, u215_134, u215_137, u215_139, u215_141, u215_142, u215_143, u215_146, u215_148, u215_151, u215_152, u215_153, u215_154, u215_156, u215_157, u215_160, u215_162, u215_164, u215_166, u215_167, u215_168, u215_171, u215_172, u215_173, u215_174, u215_177, u215_178, u215_179, u215_181, u215_183, u215_184, u215_185, u215_188, u215_189, u215_190, u215_191, u215_194, u215_195, u215_196, u215_198, u215_199, u215_202, u215_204, u215_206, u215_207, u215_208, u215_211, u215_212, u215_213, u215_214, u215_217, u215_218, u215_219, u215_221, u215_222, u215_223, u215_224, u215_227, u215_229, u215_231, u215_234, u215_235, u215_237, u215_238, u215_239, u215_240, u215_241, u215_244, u215_246, u215_247, u215_248, u215_251, u215_252, u215_255, u215_257, u215_258, u215_259, u215_262, u215_265, ly_kd, ly_al, ly_fv0, ly_fv1, ly_fv2, ly_fv3, ly_fv4, ly_fk, ly_ra, ↓reduceIte, Option.toList, List.cons_append, List.nil_append, q_ski, q_skr, q_sku, if_true, if_false, not_false_eq_true, true_and, show ¬ (16 : Int32) ≤ nI i from (show ¬ nI 16 ≤ nI i from nI_ge i16 (by omega)), show ¬ nI (X i) < nI (c / 2) from nI_nlt (by omega) (by omega), rm, dv, hc2, hr2, vi, ci, true_and, e92, e93, z0, zc, s6, s7, s8, s9, s10, show ¬ (2 : Int32) = 1 by decide, show ¬ (2 : Int32) = 3 by decide, show  (2 : Int32) ≤ 2 by decide, show ¬ (3 : Int32) ≤ 2 by decide, f1, fl2, f3, show ¬ (2 : Int32) = 0 by decide, show ¬ (1 : Int32) = 0 by decide, nI_1]
          exact n1 _ _ _ _ _ q_ski q_ski q_ski q_ski q_ski
      · have h0 := h34 (by decide)
        have k2 := (q_cn_h hr h0).2
        by_cases g : Y i < r / 2
        · have f1 : nI r - 1 - nI (Y i) = nI (2 * (r / 2) - 1 - Y i) := by rw [one, pk_sub (by omega), pk_sub (by omega)]; congr 1; omega
          have f2 : nI (2 * (r / 2) - 1 - Y i) - nI (r / 2) = nI (2 * (r / 2) - 1 - Y i - r / 2) := pk_sub (by omega)
          have f3 : nI (2 * (r / 2) - 1 - Y i - r / 2) * nI c + nI (X i) = nI ((2 * (r / 2) - 1 - Y i - r / 2) * c + X i) := by rw [pk_mul, nI_add]
          have n1 := nx ((2 * (r / 2) - 1 - Y i - r / 2) * c + X i) (2 * (16 / (c * r)) - 1 - L i) (by rw [q_f53t g] <;> rfl) (by rw [q_f53t g] <;> rfl)
          rw [show nI 3 = 3 from rfl] at n1 ⊢
          simp only [u215_0, u215_2, u215_3, u215_4, u215_5, u215_6, u215_8, u215_9, u215_13, u215_15, u215_18, u215_19, u215_22, u215_24, u215_25, u215_26, u215_27, u215_29, u215_30, u215_33, u215_35, u215_36, u215_37, u215_38, u215_40, u215_41, u215_42, u215_45, u215_47, u215_48, u215_49, u215_50, u215_53, u215_54, u215_57, u215_58, u215_61, u215_62, u215_63, u215_66, u215_68, u215_69, u215_70, u215_71, u215_74, u215_75, u215_78, u215_79, u215_82, u215_83, u215_84, u215_87, u215_89, u215_90, u215_91, u215_92, u215_95, u215_96, u215_99, u215_100, u215_103, u215_105, u215_106, u215_107, u215_108, u215_111, u215_112, u215_115, u215_116, u215_118, u215_119, u215_120, u215_123, u215_125, u215_128, u215_129, u215_130, u215_131, u215_133, u215_134, u215_137, u215_139, u215_141, u215_142, u215_143, u215_146, u215_148, u215_151, u215_152, u215_153, u215_154, u215_156, u215_157, u215_160, u215_162, u215_164, u215_166, u215_167, u215_168, u215_171, u215_172, u215_173, u215_174, u215_177, u215_178, u215_179, u215_181, u215_183, u215_184, u215_185, u215_188, u215_189, u215_190, u215_191, u215_194, u215_195, u215_196, u215_198, u215_199, u215_202, u215_204, u215_206, u215_207, u215_208, u215_211, u215_212, u215_213, u215_214, u215_217, u215_218, u215_219, u215_221, u215_222, u215_223, u215_224, u215_227, u215_229, u215_231, u215_234, u215_235, u215_237, u215_238, u215_239, u215_240, u215_241, u215_244, u215_246, u215_247, u215_248, u215_251, u215_252, u215_255, u215_257, u215_258, u215_259, u215_262, u215_265, ly_kd, ly_al, ly_fv0, ly_fv1, ly_fv2, ly_fv3, ly_fv4, ly_fk, ly_ra, ↓reduceIte, Option.toList, List.cons_append, List.nil_append, q_ski, q_skr, q_sku, if_true, if_false, not_false_eq_true, true_and, show ¬ (16 : Int32) ≤ nI i from (show ¬ nI 16 ≤ nI i from nI_ge i16 (by omega)), show ¬ nI (r / 2) ≤ nI (Y i) from nI_ge g (by omega), rm, dv, hc2, hr2, vi, ci, true_and, e92, e93, z0, zc, s6, s7, s8, s9, s10, show ¬ (3 : Int32) = 1 by decide, show ¬ (3 : Int32) = 2 by decide, show ¬ (3 : Int32) ≤ 2 by decide, show  (3 : Int32) ≤ 3 by decide, f1, fl2, f2, f3, show ¬ (2 : Int32) = 0 by decide, show ¬ (1 : Int32) = 0 by decide, nI_1]
          exact n1 _ _ _ _ _ q_ski q_ski q_ski q_ski q_ski
        · have f2 : nI (Y i) - nI (r / 2) = nI (Y i - r / 2) := pk_sub (by omega)
          have f3 : nI (Y i - r / 2) * nI c + nI (X i) = nI ((Y i - r / 2) * c + X i) := by rw [pk_mul, nI_add]
          have n1 := nx ((Y i - r / 2) * c + X i) (L i) (by rw [q_f53f g] <;> rfl) (by rw [q_f53f g] <;> rfl)
          rw [show nI 3 = 3 from rfl] at n1 ⊢
          simp only [u215_0, u215_2, u215_3, u215_4, u215_5, u215_6, u215_8, u215_9, u215_13, u215_15, u215_18, u215_19, u215_22, u215_24, u215_25, u215_26, u215_27, u215_29, u215_30, u215_33, u215_35, u215_36, u215_37, u215_38, u215_40, u215_41, u215_42, u215_45, u215_47, u215_48, u215_49, u215_50, u215_53, u215_54, u215_57, u215_58, u215_61, u215_62, u215_63, u215_66, u215_68, u215_69, u215_70, u215_71, u215_74, u215_75, u215_78, u215_79, u215_82, u215_83, u215_84, u215_87, u215_89, u215_90, u215_91, u215_92, u215_95, u215_96, u215_99, u215_100, u215_103, u215_105, u215_106, u215_107, u215_108, u215_111, u215_112, u215_115, u215_116, u215_118, u215_119, u215_120, u215_123, u215_125, u215_128, u215_129, u215_130, u215_131, u215_133, u215_134, u215_137, u215_139, u215_141, u215_142, u215_143, u215_146, u215_148, u215_151, u215_152, u215_153, u215_154, u215_156, u215_157, u215_160, u215_162, u215_164, u215_166, u215_167, u215_168, u215_171, u215_172, u215_173, u215_174, u215_177, u215_178, u215_179, u215_181, u215_183, u215_184, u215_185, u215_188, u215_189, u215_190, u215_191, u215_194, u215_195, u215_196, u215_198, u215_199, u215_202, u215_204, u215_206, u215_207, u215_208, u215_211, u215_212, u215_213, u215_214, u215_217, u215_218, u215_219, u215_221, u215_222, u215_223, u215_224, u215_227, u215_229, u215_231, u215_234, u215_235, u215_237, u215_238, u215_239, u215_240, u215_241, u215_244, u215_246, u215_247, u215_248, u215_251, u215_252, u215_255, u215_257, u215_258, u215_259, u215_262, u215_265, ly_kd, ly_al, ly_fv0, ly_fv1, ly_fv2, ly_fv3, ly_fv4, ly_fk, ly_ra, ↓reduceIte, Option.toList, List.cons_append, List.nil_append, q_ski, q_skr, q_sku, if_true, if_false, not_false_eq_true, true_and, show ¬ (16 : Int32) ≤ nI i from (show ¬ nI 16 ≤ nI i from nI_ge i16 (by omega)), show nI (r / 2) ≤ nI (Y i) from nI_le (by omega) (by omega), rm, dv, hc2, hr2, vi, ci, true_and, e92, e93, z0, zc, s6, s7, s8, s9, s10, show ¬ (3 : Int32) = 1 by decide, show ¬ (3 : Int32) = 2 by decide, show ¬ (3 : Int32) ≤ 2 by decide, show  (3 : Int32) ≤ 3 by decide, f2, f3, show ¬ (2 : Int32) = 0 by decide, show ¬ (1 : Int32) = 0 by decide, nI_1]
          exact n1 _ _ _ _ _ q_ski q_ski q_ski q_ski q_ski
      · have h0 := h34 (by decide)
        have k2 := (q_cn_h hr h0).2
        by_cases g : Y i < r / 2
        · have f3 : nI (Y i) * nI c + nI (X i) = nI ((Y i) * c + X i) := by rw [pk_mul, nI_add]
          have n1 := nx ((Y i) * c + X i) (L i) (by rw [q_f54t g] <;> rfl) (by rw [q_f54t g] <;> rfl)
          simp only [u215_0, u215_2, u215_3, u215_4, u215_5, u215_6, u215_8, u215_9, u215_13, u215_15, u215_18, u215_19, u215_22, u215_24, u215_25, u215_26, u215_27, u215_29, u215_30, u215_33, u215_35, u215_36, u215_37, u215_38, u215_40, u215_41, u215_42, u215_45, u215_47, u215_48, u215_49, u215_50, u215_53, u215_54, u215_57, u215_58, u215_61, u215_62, u215_63, u215_66, u215_68, u215_69, u215_70, u215_71, u215_74, u215_75, u215_78, u215_79, u215_82, u215_83, u215_84, u215_87, u215_89, u215_90, u215_91, u215_92, u215_95, u215_96, u215_99, u215_100, u215_103, u215_105, u215_106, u215_107, u215_108, u215_111, u215_112, u215_115, u215_116, u215_118, u215_119, u215_120, u215_123, u215_125, u215_128, u215_129, u215_130, u215_131, u215_133, u215_134, u215_137, u215_139, u215_141, u215_142, u215_143, u215_146, u215_148, u215_151, u215_152, u215_153, u215_154, u215_156, u215_157, u215_160, u215_162, u215_164, u215_166, u215_167, u215_168, u215_171, u215_172, u215_173, u215_174, u215_177, u215_178, u215_179, u215_181, u215_183, u215_184, u215_185, u215_188, u215_189, u215_190, u215_191, u215_194, u215_195, u215_196, u215_198, u215_199, u215_202, u215_204, u215_206, u215_207, u215_208, u215_211, u215_212, u215_213, u215_214, u215_217, u215_218, u215_219, u215_221, u215_222, u215_223, u215_224, u215_227, u215_229, u215_231, u215_234, u215_235, u215_237, u215_238, u215_239, u215_240, u215_241, u215_244, u215_246, u215_247, u215_248, u215_251, u215_252, u215_255, u215_257, u215_258, u215_259, u215_262, u215_265, ly_kd, ly_al, ly_fv0, ly_fv1, ly_fv2, ly_fv3, ly_fv4, ly_fk, ly_ra, ↓reduceIte, Option.toList, List.cons_append, List.nil_append, q_ski, q_skr, q_sku, if_true, if_false, not_false_eq_true, true_and, show ¬ (16 : Int32) ≤ nI i from (show ¬ nI 16 ≤ nI i from nI_ge i16 (by omega)), show nI (Y i) < nI (r / 2) from nI_lt g (by omega), rm, dv, hc2, hr2, vi, ci, true_and, e92, e93, z0, zc, s6, s7, s8, s9, s10, show ¬ nI 4 = 1 by decide, show ¬ nI 4 = 2 by decide, show ¬ nI 4 = 3 by decide, show ¬ nI 4 ≤ 2 by decide, show  (3 : Int32) ≤ nI 4 by decide, f3, show ¬ (2 : Int32) = 0 by decide, show ¬ (1 : Int32) = 0 by decide, nI_1]
          exact n1 _ _ _ _ _ q_ski q_ski q_ski q_ski q_ski
        · have f1 : nI r - 1 - nI (Y i) = nI (2 * (r / 2) - 1 - Y i) := by rw [one, pk_sub (by omega), pk_sub (by omega)]; congr 1; omega
          have f3 : nI (2 * (r / 2) - 1 - Y i) * nI c + nI (X i) = nI ((2 * (r / 2) - 1 - Y i) * c + X i) := by rw [pk_mul, nI_add]
          have n1 := nx ((2 * (r / 2) - 1 - Y i) * c + X i) (2 * (16 / (c * r)) - 1 - L i) (by rw [q_f54f g] <;> rfl) (by rw [q_f54f g] <;> rfl)
          simp only [u215_0, u215_2, u215_3, u215_4, u215_5, u215_6, u215_8, u215_9, u215_13, u215_15, u215_18, u215_19, u215_22, u215_24, u215_25, u215_26, u215_27, u215_29, u215_30, u215_33, u215_35, u215_36, u215_37, u215_38, u215_40, u215_41, u215_42, u215_45, u215_47, u215_48, u215_49, u215_50, u215_53, u215_54, u215_57, u215_58, u215_61, u215_62, u215_63, u215_66, u215_68, u215_69, u215_70, u215_71, u215_74, u215_75, u215_78, u215_79, u215_82, u215_83, u215_84, u215_87, u215_89, u215_90, u215_91, u215_92, u215_95, u215_96, u215_99, u215_100, u215_103, u215_105, u215_106, u215_107, u215_108, u215_111, u215_112, u215_115, u215_116, u215_118, u215_119, u215_120, u215_123, u215_125, u215_128, u215_129, u215_130, u215_131, u215_133, u215_134, u215_137, u215_139, u215_141, u215_142, u215_143, u215_146, u215_148, u215_151, u215_152, u215_153, u215_154, u215_156, u215_157, u215_160, u215_162, u215_164, u215_166, u215_167, u215_168, u215_171, u215_172, u215_173, u215_174, u215_177, u215_178, u215_179, u215_181, u215_183, u215_184, u215_185, u215_188, u215_189, u215_190, u215_191, u215_194, u215_195, u215_196, u215_198, u215_199, u215_202, u215_204, u215_206, u215_207, u215_208, u215_211, u215_212, u215_213, u215_214, u215_217, u215_218, u215_219, u215_221, u215_222, u215_223, u215_224, u215_227, u215_229, u215_231, u215_234, u215_235, u215_237, u215_238, u215_239, u215_240, u215_241, u215_244, u215_246, u215_247, u215_248, u215_251, u215_252, u215_255, u215_257, u215_258, u215_259, u215_262, u215_265, ly_kd, ly_al, ly_fv0, ly_fv1, ly_fv2, ly_fv3, ly_fv4, ly_fk, ly_ra, ↓reduceIte, Option.toList, List.cons_append, List.nil_append, q_ski, q_skr, q_sku, if_true, if_false, not_false_eq_true, true_and, show ¬ (16 : Int32) ≤ nI i from (show ¬ nI 16 ≤ nI i from nI_ge i16 (by omega)), show ¬ nI (Y i) < nI (r / 2) from nI_nlt (by omega) (by omega), rm, dv, hc2, hr2, vi, ci, true_and, e92, e93, z0, zc, s6, s7, s8, s9, s10, show ¬ nI 4 = 1 by decide, show ¬ nI 4 = 2 by decide, show ¬ nI 4 = 3 by decide, show ¬ nI 4 ≤ 2 by decide, show  (3 : Int32) ≤ nI 4 by decide, f1, fl2, f3, show ¬ (2 : Int32) = 0 by decide, show ¬ (1 : Int32) = 0 by decide, nI_1]
          exact n1 _ _ _ _ _ q_ski q_ski q_ski q_ski q_ski
  refine s215.mpr ?_
  simp only [u215_0, u215_2, u215_3, u215_4, u215_5, u215_6, u215_8, u215_9, u215_13, u215_15, u215_18, u215_19, u215_22, u215_24, u215_25, u215_26, u215_27, u215_29, u215_30, u215_33, u215_35, u215_36, u215_37, u215_38, u215_40, u215_41, u215_42, u215_45, u215_47, u215_48, u215_49, u215_50, u215_53, u215_54, u215_57, u215_58, u215_61, u215_62, u215_63, u215_66, u215_68, u215_69, u215_70, u215_71, u215_74, u215_75, u215_78, u215_79, u215_82, u215_83, u215_84, u215_87, u215_89, u215_90, u215_91, u215_92, u215_95, u215_96, u215_99, u215_100, u215_103, u215_105, u215_106, u215_107, u215_108, u215_111, u215_112, u215_115, u215_116, u215_118, u215_119, u215_120, u215_123, u215_125, u215_128, u215_129, u215_130, u215_131, u215_133, u215_134, u215_137, u215_139, u215_141, u215_142, u215_143, u215_146, u215_148, u215_151, u215_152, u215_153, u215_154, u215_156, u215_157, u215_160, u215_162, u215_164, u215_166, u215_167, u215_168, u215_171, u215_172, u215_173, u215_174, u215_177, u215_178, u215_179, u215_181, u215_183, u215_184, u215_185, u215_188, u215_189, u215_190, u215_191, u215_194, u215_195, u215_196, u215_198, u215_199, u215_202, u215_204, u215_206, u215_207, u215_208, u215_211, u215_212, u215_213, u215_214, u215_217, u215_218, u215_219, u215_221, u215_222, u215_223, u215_224, u215_227, u215_229, u215_231, u215_234, u215_235, u215_237, u215_238, u215_239, u215_240, u215_241, u215_244, u215_246, u215_247, u215_248, u215_251, u215_252, u215_255, u215_257, u215_258, u215_259, u215_262, u215_265, ly_kd, ly_al, ly_fv0, ly_fv1, ly_fv2, ly_fv3, ly_fv4, ly_fk, ly_ra, ↓reduceIte, Option.toList, List.cons_append, List.nil_append, q_ski, q_skr, q_sku, if_true, if_false, not_false_eq_true, true_and, pk_mul, zcr, d16]
  exact main 16 0 rfl μ (fun _ _ _ => rfl) (fun _ _ => ⟨rfl, rfl⟩) (fun j hj => absurd hj (by omega)) _ _ _ _ _ q_sku q_sku q_sku q_sku q_sku
