/-! foldings: the pairs -/
theorem q_fd_b {f : Nat} : ∀ j c r x y l nA nB, q_cn nA c → q_cn nB r → nA + q_cA f j ≤ 2 → nB + q_cB f j ≤ 2 → (∀ i, i < j → 1 ≤ q_dg f i ∧ q_dg f i ≤ 4) → x < c → y < r → l < 16 / (c * r) → q_pil (q_fd f j (c, r, x, y, l)) < 16 ∧ (q_fd f j (c, r, x, y, l)).2.2.2.2 < 16
  | 0, c, r, x, y, l, nA, nB, hc, hr, ha, hb, hg, hx, hy, hl => by
    obtain ⟨c1, c2, c3, -⟩ := q_cn_4 hc
    obtain ⟨r1, r2, r3, -⟩ := q_cn_4 hr
    obtain ⟨t1, t2, -⟩ := q_cn_t hc hr
    refine ⟨?_, ?_⟩
    · show y * c + x < 16
      have : y * c ≤ 3 * c := Nat.mul_le_mul_right _ (by omega)
      omega
    · show l < 16
      omega
  | j + 1, c, r, x, y, l, nA, nB, hc, hr, ha, hb, hg, hx, hy, hl => by
    obtain ⟨c1, c2, c3, c4⟩ := q_cn_4 hc
    obtain ⟨r1, r2, r3, r4⟩ := q_cn_4 hr
    rw [q_cA_s] at ha
    rw [q_cB_s] at hb
    have dg := hg j (by omega)
    have h12 : q_dg f j ≤ 2 → ¬ c / 2 = 0 := fun z y => by
      rw [if_pos z] at ha
      have := c4 y
      omega
    have h34 : ¬ q_dg f j ≤ 2 → ¬ r / 2 = 0 := fun z y => by
      rw [if_neg z] at hb
      have := r4 y
      omega
    have fb := q_f5_b dg hc hr h12 h34 hx hy hl
    show q_pil (q_fd f j (q_f5 (q_dg f j) c r x y l)) < 16 ∧ (q_fd f j (q_f5 (q_dg f j) c r x y l)).2.2.2.2 < 16
    have e12 : q_dg f j ≤ 2 → (q_f5 (q_dg f j) c r x y l).1 = c / 2 ∧ (q_f5 (q_dg f j) c r x y l).2.1 = r := fun z => q_f5_c z
    have e34 : ¬ q_dg f j ≤ 2 → (q_f5 (q_dg f j) c r x y l).1 = c ∧ (q_f5 (q_dg f j) c r x y l).2.1 = r / 2 := fun z => q_f5_r z
    generalize q_f5 (q_dg f j) c r x y l = s at fb e12 e34 ⊢
    obtain ⟨c', r', x', y', l'⟩ := s
    by_cases z : q_dg f j ≤ 2
    · rw [if_pos z] at ha hb
      obtain ⟨e1, e2⟩ := e12 z
      have e1 : c' = c / 2 := e1
      have e2 : r' = r := e2
      exact q_fd_b j c' r' x' y' l' (nA + 1) nB (by rw [e1]; exact (q_cn_h hc (h12 z)).1) (by rw [e2]; exact hr) (by omega) (by omega) (fun i hi => hg i (by omega)) fb.1 fb.2.1 fb.2.2
    · rw [if_neg z] at ha hb
      obtain ⟨e1, e2⟩ := e34 z
      have e1 : c' = c := e1
      have e2 : r' = r / 2 := e2
      exact q_fd_b j c' r' x' y' l' nA (nB + 1) (by rw [e1]; exact hc) (by rw [e2]; exact (q_cn_h hr (h34 z)).1) (by omega) (by omega) (fun i hi => hg i (by omega)) fb.1 fb.2.1 fb.2.2
theorem q_fe_b {f k cell : Nat} (v : q_vf f k) (hc : cell < 16) : q_pil (q_fe f k cell) < 16 ∧ (q_fe f k cell).2.2.2.2 < 16 := q_fd_b k 4 4 (cell % 4) (cell / 4) 0 0 0 (.inl ⟨rfl, rfl⟩) (.inl ⟨rfl, rfl⟩) (by have := v.2.2.2.2.1; omega) (by have := v.2.2.2.2.2; omega) v.2.2.2.1 (by omega) (by omega) (by decide)
theorem q_fy_fold {μ μ' : gM} (f : ∀ o, o ≠ 92 → o ≠ 93 → μ' o = μ o) : q_fx μ μ' := fun o a => f o (fun z => a (by rw [z]; unfold q_scr; omega)) (fun z => a (by rw [z]; unfold q_scr; omega))
set_option maxHeartbeats 1000000 in
theorem p_folded {a c w : Int32} : q_P 107 217 [.ref 0, .int a, .int c, .int w] [.ref 83, .int a, .int c, .int w] := by
  intro μ R I hk
  have mref : ∀ (μ1 : gM) (R2 : gR), (¬ (0 ≤ c ∧ c ≤ 15) ∨ ¬ (0 ≤ w ∧ w ≤ 1) ∨ ∀ f k, a = nI f → ¬ q_vf f k) → R2 (some (.int (-1000000001))) (gc_up μ1 87 1 (μ1 87 1 + 1)) → gc_S 100 217 [.ref 83, .int a, .int c, .int w] μ1 R2 := fun μ1 R2 hor h2 => by
    refine s217.mpr ?_
    simp only [u217_0, u217_1, u217_4, u217_7, u217_8, u217_11, u217_14, u217_15, u217_16, u217_17, u217_18, u217_21, u217_24, u217_25, u217_26, u217_29, u217_30, u217_31, u217_32, u217_35, u217_36, u217_39, u217_40, u217_43, u217_44, u217_45, u217_48, u217_49, u217_52, u217_53, u217_54, ly_kd, ly_al, ly_fv0, ly_fv1, ly_fv2, ly_fv3, ly_fv4, ly_fk, ly_ra, ↓reduceIte, Option.toList, List.cons_append, List.nil_append, q_ski, q_skr, q_sku, if_true, if_false]
    refine m_isFolding (fun f k e v => ?_) (fun hn => ?_)
    · by_cases hc : 0 ≤ c ∧ c ≤ 15
      · by_cases hw : 0 ≤ w ∧ w ≤ 1
        · rcases hor with z | z | z
          · exact absurd hc z
          · exact absurd hw z
          · exact absurd v (z f k e)
        · simp only [u217_0, u217_1, u217_4, u217_7, u217_8, u217_11, u217_14, u217_15, u217_16, u217_17, u217_18, u217_21, u217_24, u217_25, u217_26, u217_29, u217_30, u217_31, u217_32, u217_35, u217_36, u217_39, u217_40, u217_43, u217_44, u217_45, u217_48, u217_49, u217_52, u217_53, u217_54, ly_kd, ly_al, ly_fv0, ly_fv1, ly_fv2, ly_fv3, ly_fv4, ly_fk, ly_ra, ↓reduceIte, Option.toList, List.cons_append, List.nil_append, q_ski, q_skr, q_sku, if_true, if_false, m_in, m_isCell, m_isMourner, m_isKm, m_isSheet, m_f1, m_f2, m_f3, m_f4, m_f5, q_b0, q_not, and_self, q_wl0, q_wl1, q_wl48, q_wu1, q_wu2, q_wu3, q_wu5, q_wu6, q_wu7, q_wu8, q_wu15, q_wu30, q_wu40, q_wu57, q_wu60, q_wu69, q_wu99, q_wu1584, fa_wide_le, q_up_o (show (84 : Nat) ≠ 79 by decide), hc, hw, show ¬ (1 : Int32) = 0 by decide]
          exact h2
      · simp only [u217_0, u217_1, u217_4, u217_7, u217_8, u217_11, u217_14, u217_15, u217_16, u217_17, u217_18, u217_21, u217_24, u217_25, u217_26, u217_29, u217_30, u217_31, u217_32, u217_35, u217_36, u217_39, u217_40, u217_43, u217_44, u217_45, u217_48, u217_49, u217_52, u217_53, u217_54, ly_kd, ly_al, ly_fv0, ly_fv1, ly_fv2, ly_fv3, ly_fv4, ly_fk, ly_ra, ↓reduceIte, Option.toList, List.cons_append, List.nil_append, q_ski, q_skr, q_sku, if_true, if_false, m_in, m_isCell, m_isMourner, m_isKm, m_isSheet, m_f1, m_f2, m_f3, m_f4, m_f5, q_b0, q_not, and_self, q_wl0, q_wl1, q_wl48, q_wu1, q_wu2, q_wu3, q_wu5, q_wu6, q_wu7, q_wu8, q_wu15, q_wu30, q_wu40, q_wu57, q_wu60, q_wu69, q_wu99, q_wu1584, fa_wide_le, q_up_o (show (84 : Nat) ≠ 79 by decide), hc, show ¬ (1 : Int32) = 0 by decide]
        exact h2
    · simp only [u217_0, u217_1, u217_4, u217_7, u217_8, u217_11, u217_14, u217_15, u217_16, u217_17, u217_18, u217_21, u217_24, u217_25, u217_26, u217_29, u217_30, u217_31, u217_32, u217_35, u217_36, u217_39, u217_40, u217_43, u217_44, u217_45, u217_48, u217_49, u217_52, u217_53, u217_54, ly_kd, ly_al, ly_fv0, ly_fv1, ly_fv2, ly_fv3, ly_fv4, ly_fk, ly_ra, ↓reduceIte, Option.toList, List.cons_append, List.nil_append, q_ski, q_skr, q_sku, if_true, if_false, m_in, m_isCell, m_isMourner, m_isKm, m_isSheet, m_f1, m_f2, m_f3, m_f4, m_f5, q_b0, q_not, and_self, q_wl0, q_wl1, q_wl48, q_wu1, q_wu2, q_wu3, q_wu5, q_wu6, q_wu7, q_wu8, q_wu15, q_wu30, q_wu40, q_wu57, q_wu60, q_wu69, q_wu99, q_wu1584, fa_wide_le, q_up_o (show (84 : Nat) ≠ 79 by decide)]
      exact h2
  have ref : (¬ (0 ≤ c ∧ c ≤ 15) ∨ ¬ (0 ≤ w ∧ w ≤ 1) ∨ ∀ f k, a = nI f → ¬ q_vf f k) → R (some (.int (-1000000001))) (gc_up μ 79 1 (μ 79 1 + 1)) := fun hor => by
    refine hk _ _ (q_hi_up q_hi.rf (by omega)) (fun R2 hr2 => ?_)
    exact mref _ R2 hor (q_P_ref I (by omega) q_fx.rf.fy q_fx.rf.fy hr2)
  refine s107.mpr ?_
  by_cases hc : 0 ≤ c ∧ c ≤ 15
  · by_cases hw : 0 ≤ w ∧ w ≤ 1
    · obtain ⟨cell, hcell, rfl⟩ := q_rng (n := 15) (K := 15) rfl hc
      simp only [u107_0, u107_1, u107_4, u107_7, u107_8, u107_9, u107_12, u107_15, u107_16, u107_17, u107_20, u107_21, u107_22, u107_23, u107_26, u107_28, u107_30, u107_33, u107_34, u107_35, u107_38, u107_39, u107_40, u107_43, u107_45, u107_47, u107_48, u107_51, u107_53, u107_55, u107_56, ly_kd, ly_al, ly_fv0, ly_fv1, ly_fv2, ly_fv3, ly_fv4, ly_fk, ly_ra, ↓reduceIte, Option.toList, List.cons_append, List.nil_append, q_ski, q_skr, q_sku, if_true, if_false, t_upTo, t_isCell, t_isMourner, t_isKM, t_isUse, t_isSheet, t_ref1, t_ref2, t_ref3, t_ref4, t_ref5, q_b0, q_not, and_self, hc, hw, show ¬ (1 : Int32) = 0 by decide]
      refine t_pal (d := 97) (show cell < 16 by omega) (fun f k e v => ?_) (fun hn => ?_)
      · subst e
        have v3 := q_lt31 v.1 v.2.2.1
        obtain ⟨b1, b2⟩ := q_fe_b v (show cell < 16 by omega)
        have pos : ¬ nI (q_pil (q_fe f k cell) * 16 + (q_fe f k cell).2.2.2.2) < 0 := Int32.not_lt.mpr (nI_pos' (by omega))
        have pos2 : 0 ≤ nI (q_pil (q_fe f k cell) * 16 + (q_fe f k cell).2.2.2.2) := nI_pos' (by omega)
        have dv : nI (q_pil (q_fe f k cell) * 16 + (q_fe f k cell).2.2.2.2) / 16 = nI (q_pil (q_fe f k cell)) := by
          rw [show (16 : Int32) = nI 16 from rfl, pk_div (by omega) (by decide) (by decide)]; congr 1; omega
        have rm : nI (q_pil (q_fe f k cell) * 16 + (q_fe f k cell).2.2.2.2) - nI (q_pil (q_fe f k cell) * 16 + (q_fe f k cell).2.2.2.2) / 16 * 16 = nI (q_fe f k cell).2.2.2.2 := by
          rw [show (16 : Int32) = nI 16 from rfl, pk_rem (by omega) (by decide) (by decide)]; congr 1; omega
        have rm : nI (q_pil (q_fe f k cell) * 16 + (q_fe f k cell).2.2.2.2) - nI (q_pil (q_fe f k cell)) * 16 = nI (q_fe f k cell).2.2.2.2 := by rw [← dv]; exact rm
        have mgood : ∀ (R2 : gR), (∀ μ2, q_I μ2 → q_hi μ μ2 → R2 (some (.int (if w = 0 then nI (q_pil (q_fe f k cell)) else nI (q_fe f k cell).2.2.2.2))) μ2) → gc_S 100 217 [.ref 83, .int (nI f), .int (nI cell), .int w] μ R2 := fun R2 hr2 => by
          refine s217.mpr ?_
          simp only [u217_0, u217_1, u217_4, u217_7, u217_8, u217_11, u217_14, u217_15, u217_16, u217_17, u217_18, u217_21, u217_24, u217_25, u217_26, u217_29, u217_30, u217_31, u217_32, u217_35, u217_36, u217_39, u217_40, u217_43, u217_44, u217_45, u217_48, u217_49, u217_52, u217_53, u217_54, ly_kd, ly_al, ly_fv0, ly_fv1, ly_fv2, ly_fv3, ly_fv4, ly_fk, ly_ra, ↓reduceIte, Option.toList, List.cons_append, List.nil_append, q_ski, q_skr, q_sku, if_true, if_false]
          refine m_isFolding (fun f' k' e' v' => ?_) (fun hn => absurd v (hn f k rfl))
          simp only [u217_0, u217_1, u217_4, u217_7, u217_8, u217_11, u217_14, u217_15, u217_16, u217_17, u217_18, u217_21, u217_24, u217_25, u217_26, u217_29, u217_30, u217_31, u217_35, u217_36, u217_39, u217_40, u217_43, u217_44, u217_45, u217_48, u217_49, u217_52, u217_53, u217_54, ly_kd, ly_al, ly_fv0, ly_fv1, ly_fv2, ly_fv3, ly_fv4, ly_fk, ly_ra, ↓reduceIte, Option.toList, List.cons_append, List.nil_append, q_ski, q_skr, q_sku, if_true, if_false, m_in, m_isCell, m_isMourner, m_isKm, m_isSheet, m_f1, m_f2, m_f3, m_f4, m_f5, q_b0, q_not, and_self, q_wl0, q_wl1, q_wl48, q_wu1, q_wu2, q_wu3, q_wu5, q_wu6, q_wu7, q_wu8, q_wu15, q_wu30, q_wu40, q_wu57, q_wu60, q_wu69, q_wu99, q_wu1584, fa_wide_le, q_up_o (show (84 : Nat) ≠ 79 by decide), hc, hw, show ¬ (1 : Int32) = 0 by decide]
          simp only [u217_0, u217_1, u217_4, u217_7, u217_8, u217_11, u217_14, u217_15, u217_16, u217_17, u217_18, u217_21, u217_24, u217_25, u217_26, u217_29, u217_30, u217_31, u217_32, u217_35, u217_36, u217_39, u217_40, u217_43, u217_44, u217_45, u217_48, u217_49, u217_52, u217_53, u217_54, ly_kd, ly_al, ly_fv0, ly_fv1, ly_fv2, ly_fv3, ly_fv4, ly_fk, ly_ra, ↓reduceIte, Option.toList, List.cons_append, List.nil_append, q_ski, q_skr, q_sku, if_true, if_false]
          refine m_foldsAll (d := 97) v (fun μ2 f2 a2 => ?_)
          obtain ⟨a3, a4⟩ := a2 cell (by omega)
          have fin := hr2 μ2 (q_I_fy I (q_fy_fold f2).fy) (fun o ho => f2 o (by omega) (by omega))
          by_cases w0 : w = 0
          · rw [if_pos w0] at fin
            simp only [u217_0, u217_1, u217_4, u217_7, u217_8, u217_11, u217_14, u217_15, u217_16, u217_17, u217_18, u217_21, u217_24, u217_25, u217_26, u217_29, u217_30, u217_31, u217_32, u217_35, u217_36, u217_39, u217_40, u217_43, u217_44, u217_45, u217_48, u217_49, u217_52, u217_53, u217_54, ly_kd, ly_al, ly_fv0, ly_fv1, ly_fv2, ly_fv3, ly_fv4, ly_fk, ly_ra, ↓reduceIte, Option.toList, List.cons_append, List.nil_append, q_ski, q_skr, q_sku, if_true, if_false, w0, vp_in_nI (show cell < 16 by omega) (by decide), nI_clamp (show cell < 2 ^ 31 by omega), true_and, a3]
            exact fin
          · rw [if_neg w0] at fin
            simp only [u217_0, u217_1, u217_4, u217_7, u217_8, u217_11, u217_14, u217_15, u217_16, u217_17, u217_18, u217_21, u217_24, u217_25, u217_26, u217_29, u217_30, u217_31, u217_32, u217_35, u217_36, u217_39, u217_40, u217_43, u217_44, u217_45, u217_48, u217_49, u217_52, u217_53, u217_54, ly_kd, ly_al, ly_fv0, ly_fv1, ly_fv2, ly_fv3, ly_fv4, ly_fk, ly_ra, ↓reduceIte, Option.toList, List.cons_append, List.nil_append, q_ski, q_skr, q_sku, if_true, if_false, w0, vp_in_nI (show cell < 16 by omega) (by decide), nI_clamp (show cell < 2 ^ 31 by omega), true_and, a4]
            exact fin
        have fin := fun x => hk x μ q_hi.rf
        by_cases w0 : w = 0
        · simp only [u107_0, u107_1, u107_4, u107_7, u107_8, u107_9, u107_12, u107_15, u107_16, u107_17, u107_20, u107_21, u107_22, u107_23, u107_26, u107_28, u107_30, u107_33, u107_34, u107_35, u107_38, u107_39, u107_40, u107_43, u107_45, u107_47, u107_48, u107_51, u107_53, u107_55, u107_56, ly_kd, ly_al, ly_fv0, ly_fv1, ly_fv2, ly_fv3, ly_fv4, ly_fk, ly_ra, ↓reduceIte, Option.toList, List.cons_append, List.nil_append, q_ski, q_skr, q_sku, if_true, if_false, pos, pos2, w0, dv, rm, not_false_eq_true, true_and, show ¬ (16 : Int32) = 0 by decide]
          refine fin _ (fun R2 hr2 => mgood R2 (fun μ2 i2 h2 => ?_))
          rw [if_pos w0]; exact hr2 μ2 i2 h2
        · simp only [u107_0, u107_1, u107_4, u107_7, u107_8, u107_9, u107_12, u107_15, u107_16, u107_17, u107_20, u107_21, u107_22, u107_23, u107_26, u107_28, u107_30, u107_33, u107_34, u107_35, u107_38, u107_39, u107_40, u107_43, u107_45, u107_47, u107_48, u107_51, u107_53, u107_55, u107_56, ly_kd, ly_al, ly_fv0, ly_fv1, ly_fv2, ly_fv3, ly_fv4, ly_fk, ly_ra, ↓reduceIte, Option.toList, List.cons_append, List.nil_append, q_ski, q_skr, q_sku, if_true, if_false, pos, pos2, w0, dv, rm, not_false_eq_true, true_and, show ¬ (16 : Int32) = 0 by decide]
          refine fin _ (fun R2 hr2 => mgood R2 (fun μ2 i2 h2 => ?_))
          rw [if_neg w0]; exact hr2 μ2 i2 h2
      · simp only [u107_0, u107_1, u107_4, u107_7, u107_8, u107_9, u107_12, u107_15, u107_16, u107_17, u107_20, u107_21, u107_22, u107_23, u107_26, u107_28, u107_30, u107_33, u107_34, u107_35, u107_38, u107_39, u107_40, u107_43, u107_45, u107_47, u107_48, u107_51, u107_53, u107_55, u107_56, ly_kd, ly_al, ly_fv0, ly_fv1, ly_fv2, ly_fv3, ly_fv4, ly_fk, ly_ra, ↓reduceIte, Option.toList, List.cons_append, List.nil_append, q_ski, q_skr, q_sku, if_true, if_false, t_upTo, t_isCell, t_isMourner, t_isKM, t_isUse, t_isSheet, t_ref1, t_ref2, t_ref3, t_ref4, t_ref5, q_b0, q_not, and_self, show ¬ (0 : Int32) ≤ -1 by decide]
        exact ref (.inr (.inr hn))
    · simp only [u107_0, u107_1, u107_4, u107_7, u107_8, u107_9, u107_12, u107_15, u107_16, u107_17, u107_20, u107_21, u107_22, u107_23, u107_26, u107_28, u107_30, u107_33, u107_34, u107_35, u107_38, u107_39, u107_40, u107_43, u107_45, u107_47, u107_48, u107_51, u107_53, u107_55, u107_56, ly_kd, ly_al, ly_fv0, ly_fv1, ly_fv2, ly_fv3, ly_fv4, ly_fk, ly_ra, ↓reduceIte, Option.toList, List.cons_append, List.nil_append, q_ski, q_skr, q_sku, if_true, if_false, t_upTo, t_isCell, t_isMourner, t_isKM, t_isUse, t_isSheet, t_ref1, t_ref2, t_ref3, t_ref4, t_ref5, q_b0, q_not, and_self, hc, hw, show ¬ (1 : Int32) = 0 by decide]
      exact ref (.inr (.inl hw))
  · simp only [u107_0, u107_1, u107_4, u107_7, u107_8, u107_9, u107_12, u107_15, u107_16, u107_17, u107_20, u107_21, u107_22, u107_23, u107_26, u107_28, u107_30, u107_33, u107_34, u107_35, u107_38, u107_39, u107_40, u107_43, u107_45, u107_47, u107_48, u107_51, u107_53, u107_55, u107_56, ly_kd, ly_al, ly_fv0, ly_fv1, ly_fv2, ly_fv3, ly_fv4, ly_fk, ly_ra, ↓reduceIte, Option.toList, List.cons_append, List.nil_append, q_ski, q_skr, q_sku, if_true, if_false, t_upTo, t_isCell, t_isMourner, t_isKM, t_isUse, t_isSheet, t_ref1, t_ref2, t_ref3, t_ref4, t_ref5, q_b0, q_not, and_self, hc]
    exact ref (.inl hc)
def q_tfo (i : Nat) : Nat := 11111 + i / 64 * 1000 + i / 16 % 4 * 100 + i / 4 % 4 * 10 + i % 4
theorem q_tfo_i : ∀ i, i < 256 → 11111 + nI i >>> ((6 : Int32) &&& 31) * 1000 + (nI i >>> ((4 : Int32) &&& 31) &&& 3) * 100 + (nI i >>> ((2 : Int32) &&& 31) &&& 3) * 10 + (nI i &&& 3) = nI (q_tfo i) := by decide +kernel
theorem q_tfo_lt {i : Nat} (h : i < 256) : 11111 ≤ q_tfo i ∧ q_tfo i ≤ 14444 := by unfold q_tfo; omega
theorem q_tfo_mo : ∀ i, i < 255 → q_tfo i < q_tfo (i + 1) := by decide +kernel
theorem q_tfo_m2 {i : Nat} : ∀ m, i + m < 256 → q_tfo i ≤ q_tfo (i + m)
  | 0, _ => Nat.le_refl _
  | m + 1, h => Nat.le_trans (q_tfo_m2 m (by omega)) (Nat.le_of_lt (q_tfo_mo (i + m) (by omega)))
theorem q_tfo_all {f k : Nat} (h1 : 11111 ≤ f) (h2 : f ≤ 14444) (v : q_vf f k) : k = 4 ∧ ∃ i, i < 256 ∧ f = q_tfo i := by
  have e : k = 4 := q_vf_u (i := 4) (f := f) (by have : 10 ^ 4 = 10000 := rfl; omega) (by have : 10 ^ 4 = 10000 := rfl; omega) v
  subst e
  have g := v.2.2.2.1
  have g0 : 1 ≤ f % 10 ∧ f % 10 ≤ 4 := by have := g 0 (by omega); rw [show q_dg f 0 = f / 1 % 10 from rfl, Nat.div_one] at this; exact this
  have g1 : 1 ≤ f / 10 % 10 ∧ f / 10 % 10 ≤ 4 := g 1 (by omega)
  have g2 : 1 ≤ f / 100 % 10 ∧ f / 100 % 10 ≤ 4 := g 2 (by omega)
  have g3 : 1 ≤ f / 1000 % 10 ∧ f / 1000 % 10 ≤ 4 := g 3 (by omega)
  have m0 := Nat.div_add_mod f 10
  have m1 := Nat.div_add_mod (f / 10) 10
  have m2 := Nat.div_add_mod (f / 100) 10
  have m3 := Nat.div_add_mod (f / 1000) 10
  have q1 : f / 10 / 10 = f / 100 := Nat.div_div_eq_div_mul f 10 10
  have q2 : f / 100 / 10 = f / 1000 := Nat.div_div_eq_div_mul f 100 10
  have q3 : f / 1000 / 10 = 1 := by
    have : f / 1000 / 10 = f / 10000 := Nat.div_div_eq_div_mul f 1000 10
    rw [this]; omega
  rw [q1] at m1
  rw [q2] at m2
  rw [q3] at m3
  clear q1 q2 q3 v g h1 h2
  generalize f / 10 % 10 = x1 at *
  generalize f / 100 % 10 = x2 at *
  generalize f / 1000 % 10 = x3 at *
  generalize f % 10 = x0 at *
  generalize f / 10 = y1 at *
  generalize f / 100 = y2 at *
  generalize f / 1000 = y3 at *
  obtain ⟨a, rfl⟩ : ∃ a, x3 = a + 1 := ⟨x3 - 1, by omega⟩
  obtain ⟨b, rfl⟩ : ∃ a, x2 = a + 1 := ⟨x2 - 1, by omega⟩
  obtain ⟨c, rfl⟩ : ∃ a, x1 = a + 1 := ⟨x1 - 1, by omega⟩
  obtain ⟨d, rfl⟩ : ∃ a, x0 = a + 1 := ⟨x0 - 1, by omega⟩
  have ef : f = 11111 + a * 1000 + b * 100 + c * 10 + d := by omega
  have ha : a ≤ 3 := by omega
  have hb : b ≤ 3 := by omega
  have hc : c ≤ 3 := by omega
  have hd : d ≤ 3 := by omega
  clear m0 m1 m2 m3 g0 g1 g2 g3
  refine ⟨rfl, a * 64 + b * 16 + c * 4 + d, by omega, ?_⟩
  unfold q_tfo
  have e1 : (a * 64 + b * 16 + c * 4 + d) / 64 = a := by omega
  have e2 : (a * 64 + b * 16 + c * 4 + d) / 16 = a * 4 + b := by omega
  have e3 : (a * 64 + b * 16 + c * 4 + d) / 4 = a * 16 + b * 4 + c := by omega
  have e4 : (a * 64 + b * 16 + c * 4 + d) % 4 = d := by omega
  have e5 : (a * 4 + b) % 4 = b := by omega
  have e6 : (a * 16 + b * 4 + c) % 4 = c := by omega
  rw [e1, e2, e3, e4, e5, e6]
  exact ef
set_option maxHeartbeats 1000000 in
theorem p_topFor {c : Int32} : q_P 108 218 [.ref 0, .int c] [.ref 83, .int c] := by
  intro μ R I hk
  by_cases hc : 0 ≤ c ∧ c ≤ 15
  · obtain ⟨cell, hcell, rfl⟩ := q_rng (n := 15) (K := 15) rfl hc
    have vi := vp_in_nI (show cell < 16 by omega) (show 16 < 2 ^ 31 by decide)
    have ci := nI_clamp (show cell < 2 ^ 31 by omega)
    -- the reference, from f up to T
    have mloop : ∀ (T : Nat) (μ0 : gM) (R2 : gR), 11111 ≤ T → T ≤ 14445 → (∀ f k, 11111 ≤ f → f < T → q_vf f k → ¬ (q_fe f k cell).2.2.2.2 = 15) → (∀ μ1 : gM, (∀ o, o ≠ 92 → o ≠ 93 → μ1 o = μ0 o) → gc_W (gc_S 99) cX12_topFor 12 0 R2 17 [.ref 83, .int (nI cell), .int (nI T)] [] μ1) → ∀ m f (μ1 : gM), f + m = T → 11111 ≤ f → (∀ o, o ≠ 92 → o ≠ 93 → μ1 o = μ0 o) → gc_W (gc_S 99) cX12_topFor 12 0 R2 17 [.ref 83, .int (nI cell), .int (nI f)] [] μ1 := by
      intro T μ0 R2 hT1 hT2 hno hend m
      induction m with
      | zero =>
        intro f μ1 hf hf1 f1
        have hf : f = T := hf
        rw [hf]; exact hend μ1 f1
      | succ m ih =>
        intro f μ1 hf hf1 f1
        refine (u218_17).mpr ?_
        simp only [u218_0, u218_1, u218_4, u218_7, u218_8, u218_9, u218_12, u218_13, u218_16, u218_18, u218_21, u218_24, u218_25, u218_28, u218_31, u218_32, u218_33, u218_36, u218_37, u218_40, u218_41, u218_42, u218_44, u218_47, u218_48, u218_49, u218_52, u218_55, u218_56, u218_57, u218_60, ly_kd, ly_al, ly_fv0, ly_fv1, ly_fv2, ly_fv3, ly_fv4, ly_fk, ly_ra, ↓reduceIte, Option.toList, List.cons_append, List.nil_append, q_ski, q_skr, q_sku, if_true, if_false, show ¬ (14444 : Int32) < nI f from (show ¬ nI 14444 < nI f from nI_nlt (by omega) (by omega))]
        refine m_isFolding (fun f' k' e' v' => ?_) (fun hn => ?_)
        · have v3 := q_lt31 v'.1 v'.2.2.1
          obtain rfl : f = f' := (nI_eq (by omega) (by omega)).mp e'
          simp only [u218_0, u218_1, u218_4, u218_7, u218_8, u218_9, u218_12, u218_13, u218_16, u218_18, u218_21, u218_24, u218_25, u218_28, u218_31, u218_32, u218_36, u218_37, u218_40, u218_41, u218_42, u218_44, u218_47, u218_48, u218_49, u218_52, u218_55, u218_56, u218_57, u218_60, ly_kd, ly_al, ly_fv0, ly_fv1, ly_fv2, ly_fv3, ly_fv4, ly_fk, ly_ra, ↓reduceIte, Option.toList, List.cons_append, List.nil_append, q_ski, q_skr, q_sku, if_true, if_false, show ¬ (1 : Int32) = 0 by decide]
          refine (u218_33 rfl).mpr ?_
          refine m_foldsAll (d := 97) v' (fun μ2 f2 a2 => ?_)
          obtain ⟨a3, a4⟩ := a2 cell (by omega)
          have ne := hno f k' hf1 (by omega) v'
          have b2 := (q_fe_b v' (show cell < 16 by omega)).2
          have ne' : ¬ nI (q_fe f k' cell).2.2.2.2 = 15 := fun z => ne ((nI_eq (by omega) (by decide)).mp (show nI (q_fe f k' cell).2.2.2.2 = nI 15 from z))
          simp only [u218_0, u218_1, u218_4, u218_7, u218_8, u218_9, u218_12, u218_13, u218_16, u218_18, u218_21, u218_24, u218_25, u218_28, u218_31, u218_32, u218_33, u218_36, u218_37, u218_40, u218_41, u218_42, u218_44, u218_47, u218_48, u218_49, u218_52, u218_55, u218_56, u218_57, u218_60, ly_kd, ly_al, ly_fv0, ly_fv1, ly_fv2, ly_fv3, ly_fv4, ly_fk, ly_ra, ↓reduceIte, Option.toList, List.cons_append, List.nil_append, q_ski, q_skr, q_sku, if_true, if_false, vi, ci, true_and, a4, ne', nI_1]
          exact ih (f + 1) μ2 (by omega) (by omega) (fun o a b => by rw [f2 o a b]; exact f1 o a b)
        · simp only [u218_0, u218_1, u218_4, u218_7, u218_8, u218_9, u218_12, u218_13, u218_16, u218_18, u218_21, u218_24, u218_25, u218_28, u218_31, u218_32, u218_33, u218_36, u218_37, u218_40, u218_41, u218_42, u218_44, u218_47, u218_48, u218_49, u218_52, u218_55, u218_56, u218_57, u218_60, ly_kd, ly_al, ly_fv0, ly_fv1, ly_fv2, ly_fv3, ly_fv4, ly_fk, ly_ra, ↓reduceIte, Option.toList, List.cons_append, List.nil_append, q_ski, q_skr, q_sku, if_true, if_false, nI_1]
          exact ih (f + 1) μ1 (by omega) (by omega) f1
    have main : ∀ m i, i + m = 256 → (∀ i', i' < i → ∀ k, q_vf (q_tfo i') k → ¬ (q_fe (q_tfo i') k cell).2.2.2.2 = 15) → ∀ l3 l4, gc_sk l3 = true → gc_sk l4 = true → gc_W (gc_S (99)) cX11_topFor 11 0 R 15 [.ref 0, .int (nI cell), .int (nI i), l3, l4] [] μ := by
      intro m
      induction m with
      | zero =>
        intro i hi hno l3 l4 s3 s4
        obtain rfl : i = 256 := hi
        refine (u108_15).mpr ?_
        simp only [u108_0, u108_1, u108_4, u108_7, u108_8, u108_9, u108_12, u108_13, u108_14, u108_16, u108_19, u108_22, u108_25, u108_26, u108_28, u108_29, u108_32, u108_33, u108_34, u108_35, u108_36, u108_37, u108_38, u108_39, u108_41, u108_42, u108_43, u108_44, u108_45, u108_46, u108_47, u108_48, u108_50, u108_51, u108_52, u108_53, u108_54, u108_55, u108_56, u108_57, u108_58, u108_59, u108_62, u108_64, u108_66, u108_69, u108_71, u108_73, u108_74, u108_76, u108_79, u108_80, u108_81, u108_84, u108_87, u108_88, u108_89, u108_92, ly_kd, ly_al, ly_fv0, ly_fv1, ly_fv2, ly_fv3, ly_fv4, ly_fk, ly_ra, ↓reduceIte, Option.toList, List.cons_append, List.nil_append, q_ski, q_skr, q_sku, if_true, if_false, t_upTo, t_isCell, t_isMourner, t_isKM, t_isUse, t_isSheet, t_ref1, t_ref2, t_ref3, t_ref4, t_ref5, q_b0, q_not, and_self, show (256 : Int32) ≤ nI 256 by decide]
        refine hk _ _ (q_hi_up q_hi.rf (by omega)) (fun R2 hr2 => ?_)
        simp only [s218, u218_0, u218_1, u218_4, u218_7, u218_8, u218_9, u218_12, u218_13, u218_16, u218_18, u218_21, u218_24, u218_25, u218_28, u218_31, u218_32, u218_33, u218_36, u218_37, u218_40, u218_41, u218_42, u218_44, u218_47, u218_48, u218_49, u218_52, u218_55, u218_56, u218_57, u218_60, ly_kd, ly_al, ly_fv0, ly_fv1, ly_fv2, ly_fv3, ly_fv4, ly_fk, ly_ra, ↓reduceIte, Option.toList, List.cons_append, List.nil_append, q_ski, q_skr, q_sku, if_true, if_false, m_in, m_isCell, m_isMourner, m_isKm, m_isSheet, m_f1, m_f2, m_f3, m_f4, m_f5, q_b0, q_not, and_self, q_wl0, q_wl1, q_wl48, q_wu1, q_wu2, q_wu3, q_wu5, q_wu6, q_wu7, q_wu8, q_wu15, q_wu30, q_wu40, q_wu57, q_wu60, q_wu69, q_wu99, q_wu1584, fa_wide_le, q_up_o (show (84 : Nat) ≠ 79 by decide), hc, show ¬ (1 : Int32) = 0 by decide]
        refine mloop 14445 _ R2 (by omega) (by omega) (fun f k h1 h2 v => ?_) (fun μ1 f1 => ?_) (14445 - 11111) 11111 _ (by omega) (by omega) (fun _ _ _ => rfl)
        · obtain ⟨-, i, hi, rfl⟩ := q_tfo_all h1 (by omega) v
          exact hno i hi k v
        · refine (u218_17).mpr ?_
          simp only [u218_0, u218_1, u218_4, u218_7, u218_8, u218_9, u218_12, u218_13, u218_16, u218_18, u218_21, u218_24, u218_25, u218_28, u218_31, u218_32, u218_33, u218_36, u218_37, u218_40, u218_41, u218_42, u218_44, u218_47, u218_48, u218_49, u218_52, u218_55, u218_56, u218_57, u218_60, ly_kd, ly_al, ly_fv0, ly_fv1, ly_fv2, ly_fv3, ly_fv4, ly_fk, ly_ra, ↓reduceIte, Option.toList, List.cons_append, List.nil_append, q_ski, q_skr, q_sku, if_true, if_false, m_in, m_isCell, m_isMourner, m_isKm, m_isSheet, m_f1, m_f2, m_f3, m_f4, m_f5, q_b0, q_not, and_self, q_wl0, q_wl1, q_wl48, q_wu1, q_wu2, q_wu3, q_wu5, q_wu6, q_wu7, q_wu8, q_wu15, q_wu30, q_wu40, q_wu57, q_wu60, q_wu69, q_wu99, q_wu1584, fa_wide_le, q_up_o (show (84 : Nat) ≠ 79 by decide), show (14444 : Int32) < nI 14445 by decide]
          exact q_P_ref I (by omega) q_fx.rf.fy (q_fy_fold f1).fy hr2
      | succ m ih =>
        intro i hi hno l3 l4 s3 s4
        have i256 : i < 256 := by omega
        obtain ⟨b1, b2⟩ := q_tfo_lt i256
        refine (u108_15).mpr ?_
        simp only [u108_0, u108_1, u108_4, u108_7, u108_8, u108_9, u108_12, u108_13, u108_14, u108_16, u108_19, u108_22, u108_25, u108_26, u108_28, u108_29, u108_32, u108_33, u108_34, u108_35, u108_36, u108_37, u108_38, u108_39, u108_41, u108_42, u108_43, u108_44, u108_45, u108_46, u108_47, u108_48, u108_50, u108_51, u108_52, u108_53, u108_54, u108_55, u108_56, u108_57, u108_58, u108_59, u108_62, u108_64, u108_66, u108_69, u108_71, u108_73, u108_74, u108_76, u108_79, u108_80, u108_81, u108_84, u108_87, u108_88, u108_89, u108_92, ly_kd, ly_al, ly_fv0, ly_fv1, ly_fv2, ly_fv3, ly_fv4, ly_fk, ly_ra, ↓reduceIte, Option.toList, List.cons_append, List.nil_append, q_ski, q_skr, q_sku, if_true, if_false, show ¬ (256 : Int32) ≤ nI i from (show ¬ nI 256 ≤ nI i from nI_ge i256 (by omega)), q_tfo_i i i256, s3, s4]
        refine t_pal (d := 97) (show cell < 16 by omega) (fun f k e v => ?_) (fun hn => ?_)
        · have v3 := q_lt31 v.1 v.2.2.1
          obtain rfl : q_tfo i = f := (nI_eq (by omega) (by omega)).mp e
          obtain ⟨g1, g2⟩ := q_fe_b v (show cell < 16 by omega)
          have pos : ¬ nI (q_pil (q_fe (q_tfo i) k cell) * 16 + (q_fe (q_tfo i) k cell).2.2.2.2) < 0 := Int32.not_lt.mpr (nI_pos' (by omega))
          have rm : nI (q_pil (q_fe (q_tfo i) k cell) * 16 + (q_fe (q_tfo i) k cell).2.2.2.2) - nI (q_pil (q_fe (q_tfo i) k cell) * 16 + (q_fe (q_tfo i) k cell).2.2.2.2) / 16 * 16 = nI (q_fe (q_tfo i) k cell).2.2.2.2 := by
            rw [show (16 : Int32) = nI 16 from rfl, pk_rem (by omega) (by decide) (by decide)]; congr 1; omega
          by_cases e15 : (q_fe (q_tfo i) k cell).2.2.2.2 = 15
          · have e15' : nI (q_fe (q_tfo i) k cell).2.2.2.2 = 15 := by rw [e15]; rfl
            simp only [u108_0, u108_1, u108_4, u108_7, u108_8, u108_9, u108_12, u108_13, u108_14, u108_16, u108_19, u108_22, u108_25, u108_26, u108_28, u108_29, u108_32, u108_33, u108_34, u108_35, u108_36, u108_37, u108_38, u108_39, u108_41, u108_42, u108_43, u108_44, u108_45, u108_46, u108_47, u108_48, u108_50, u108_51, u108_52, u108_53, u108_54, u108_55, u108_56, u108_57, u108_58, u108_59, u108_62, u108_64, u108_66, u108_69, u108_71, u108_73, u108_74, u108_76, u108_79, u108_80, u108_81, u108_84, u108_87, u108_88, u108_89, u108_92, ly_kd, ly_al, ly_fv0, ly_fv1, ly_fv2, ly_fv3, ly_fv4, ly_fk, ly_ra, ↓reduceIte, Option.toList, List.cons_append, List.nil_append, q_ski, q_skr, q_sku, if_true, if_false, pos, rm, e15', s4, not_false_eq_true, true_and, show ¬ (16 : Int32) = 0 by decide]
            refine hk _ _ q_hi.rf (fun R2 hr2 => ?_)
            simp only [s218, u218_0, u218_1, u218_4, u218_7, u218_8, u218_9, u218_12, u218_13, u218_16, u218_18, u218_21, u218_24, u218_25, u218_28, u218_31, u218_32, u218_33, u218_36, u218_37, u218_40, u218_41, u218_42, u218_44, u218_47, u218_48, u218_49, u218_52, u218_55, u218_56, u218_57, u218_60, ly_kd, ly_al, ly_fv0, ly_fv1, ly_fv2, ly_fv3, ly_fv4, ly_fk, ly_ra, ↓reduceIte, Option.toList, List.cons_append, List.nil_append, q_ski, q_skr, q_sku, if_true, if_false, m_in, m_isCell, m_isMourner, m_isKm, m_isSheet, m_f1, m_f2, m_f3, m_f4, m_f5, q_b0, q_not, and_self, q_wl0, q_wl1, q_wl48, q_wu1, q_wu2, q_wu3, q_wu5, q_wu6, q_wu7, q_wu8, q_wu15, q_wu30, q_wu40, q_wu57, q_wu60, q_wu69, q_wu99, q_wu1584, fa_wide_le, q_up_o (show (84 : Nat) ≠ 79 by decide), hc, show ¬ (1 : Int32) = 0 by decide]
            refine mloop (q_tfo i) _ R2 (by omega) (by omega) (fun f k' h1 h2 v' => ?_) (fun μ1 f1 => ?_) (q_tfo i - 11111) 11111 _ (by omega) (by omega) (fun _ _ _ => rfl)
            · obtain ⟨-, i', hi', rfl⟩ := q_tfo_all h1 (by omega) v'
              refine hno i' ?_ k' v'
              by_cases z : i' < i
              · exact z
              · have := q_tfo_m2 (i := i) (i' - i) (by omega)
                rw [show i + (i' - i) = i' by omega] at this
                omega
            · refine (u218_17).mpr ?_
              simp only [u218_0, u218_1, u218_4, u218_7, u218_8, u218_9, u218_12, u218_13, u218_16, u218_18, u218_21, u218_24, u218_25, u218_28, u218_31, u218_32, u218_33, u218_36, u218_37, u218_40, u218_41, u218_42, u218_44, u218_47, u218_48, u218_49, u218_52, u218_55, u218_56, u218_57, u218_60, ly_kd, ly_al, ly_fv0, ly_fv1, ly_fv2, ly_fv3, ly_fv4, ly_fk, ly_ra, ↓reduceIte, Option.toList, List.cons_append, List.nil_append, q_ski, q_skr, q_sku, if_true, if_false, show ¬ (14444 : Int32) < nI (q_tfo i) from (show ¬ nI 14444 < nI (q_tfo i) from nI_nlt b2 (by omega))]
              refine m_isFolding (fun f' k' e' v' => ?_) (fun hn => absurd v (hn _ k rfl))
              simp only [u218_0, u218_1, u218_4, u218_7, u218_8, u218_9, u218_12, u218_13, u218_16, u218_18, u218_21, u218_24, u218_25, u218_28, u218_31, u218_32, u218_36, u218_37, u218_40, u218_41, u218_42, u218_44, u218_47, u218_48, u218_49, u218_52, u218_55, u218_56, u218_57, u218_60, ly_kd, ly_al, ly_fv0, ly_fv1, ly_fv2, ly_fv3, ly_fv4, ly_fk, ly_ra, ↓reduceIte, Option.toList, List.cons_append, List.nil_append, q_ski, q_skr, q_sku, if_true, if_false, show ¬ (1 : Int32) = 0 by decide]
              refine (u218_33 rfl).mpr ?_
              refine m_foldsAll (d := 97) v (fun μ2 f2 a2 => ?_)
              obtain ⟨a3, a4⟩ := a2 cell (by omega)
              simp only [u218_0, u218_1, u218_4, u218_7, u218_8, u218_9, u218_12, u218_13, u218_16, u218_18, u218_21, u218_24, u218_25, u218_28, u218_31, u218_32, u218_33, u218_36, u218_37, u218_40, u218_41, u218_42, u218_44, u218_47, u218_48, u218_49, u218_52, u218_55, u218_56, u218_57, u218_60, ly_kd, ly_al, ly_fv0, ly_fv1, ly_fv2, ly_fv3, ly_fv4, ly_fk, ly_ra, ↓reduceIte, Option.toList, List.cons_append, List.nil_append, q_ski, q_skr, q_sku, if_true, if_false, vi, ci, true_and, a4, e15']
              exact hr2 μ2 (q_I_fy I (q_fy_fold (fun o a b => by rw [f2 o a b]; exact f1 o a b)).fy) (fun o ho => by rw [f2 o (by omega) (by omega)]; exact f1 o (by omega) (by omega))
          · have e15' : ¬ nI (q_fe (q_tfo i) k cell).2.2.2.2 = 15 := fun z => e15 ((nI_eq (by omega) (by decide)).mp (show nI (q_fe (q_tfo i) k cell).2.2.2.2 = nI 15 from z))
            simp only [u108_0, u108_1, u108_4, u108_7, u108_8, u108_9, u108_12, u108_13, u108_14, u108_16, u108_19, u108_22, u108_25, u108_26, u108_28, u108_29, u108_32, u108_33, u108_34, u108_35, u108_36, u108_37, u108_38, u108_39, u108_41, u108_42, u108_43, u108_44, u108_45, u108_46, u108_47, u108_48, u108_50, u108_51, u108_52, u108_53, u108_54, u108_55, u108_56, u108_57, u108_58, u108_59, u108_62, u108_64, u108_66, u108_69, u108_71, u108_73, u108_74, u108_76, u108_79, u108_80, u108_81, u108_84, u108_87, u108_88, u108_89, u108_92, ly_kd, ly_al, ly_fv0, ly_fv1, ly_fv2, ly_fv3, ly_fv4, ly_fk, ly_ra, ↓reduceIte, Option.toList, List.cons_append, List.nil_append, q_ski, q_skr, q_sku, if_true, if_false, pos, rm, e15', s4, not_false_eq_true, true_and, show ¬ (16 : Int32) = 0 by decide, nI_1]
            refine ih (i + 1) (by omega) (fun i' hi' k' v' => ?_) _ _ q_ski q_ski
            by_cases z : i' = i
            · subst z
              have ek : k' = k := (q_tfo_all b1 b2 v').1.trans (q_tfo_all b1 b2 v).1.symm
              rw [ek]; exact e15
            · exact hno i' (by omega) k' v'
        · simp only [u108_0, u108_1, u108_4, u108_7, u108_8, u108_9, u108_12, u108_13, u108_14, u108_16, u108_19, u108_22, u108_25, u108_26, u108_28, u108_29, u108_32, u108_33, u108_34, u108_35, u108_36, u108_37, u108_38, u108_39, u108_41, u108_42, u108_43, u108_44, u108_45, u108_46, u108_47, u108_48, u108_50, u108_51, u108_52, u108_53, u108_54, u108_55, u108_56, u108_57, u108_58, u108_59, u108_62, u108_64, u108_66, u108_69, u108_71, u108_73, u108_74, u108_76, u108_79, u108_80, u108_81, u108_84, u108_87, u108_88, u108_89, u108_92, ly_kd, ly_al, ly_fv0, ly_fv1, ly_fv2, ly_fv3, ly_fv4, ly_fk, ly_ra, ↓reduceIte, Option.toList, List.cons_append, List.nil_append, q_ski, q_skr, q_sku, if_true, if_false, s4, show (-1 : Int32) < 0 by decide, nI_1]
          refine ih (i + 1) (by omega) (fun i' hi' k' v' => ?_) _ _ q_ski q_ski
          by_cases z : i' = i
          · subst z; exact absurd v' (hn _ k' rfl)
          · exact hno i' (by omega) k' v'
    simp only [s108, u108_0, u108_1, u108_4, u108_7, u108_8, u108_9, u108_12, u108_13, u108_14, u108_16, u108_19, u108_22, u108_25, u108_26, u108_28, u108_29, u108_32, u108_33, u108_34, u108_35, u108_36, u108_37, u108_38, u108_39, u108_41, u108_42, u108_43, u108_44, u108_45, u108_46, u108_47, u108_48, u108_50, u108_51, u108_52, u108_53, u108_54, u108_55, u108_56, u108_57, u108_58, u108_59, u108_62, u108_64, u108_66, u108_69, u108_71, u108_73, u108_74, u108_76, u108_79, u108_80, u108_81, u108_84, u108_87, u108_88, u108_89, u108_92, ly_kd, ly_al, ly_fv0, ly_fv1, ly_fv2, ly_fv3, ly_fv4, ly_fk, ly_ra, ↓reduceIte, Option.toList, List.cons_append, List.nil_append, q_ski, q_skr, q_sku, if_true, if_false, t_upTo, t_isCell, t_isMourner, t_isKM, t_isUse, t_isSheet, t_ref1, t_ref2, t_ref3, t_ref4, t_ref5, q_b0, q_not, and_self, hc, show ¬ (1 : Int32) = 0 by decide]
    exact main 256 0 rfl (fun i' h => absurd h (by omega)) _ _ q_sku q_sku
  · simp only [s108, u108_0, u108_1, u108_4, u108_7, u108_8, u108_9, u108_12, u108_13, u108_14, u108_16, u108_19, u108_22, u108_25, u108_26, u108_28, u108_29, u108_32, u108_33, u108_34, u108_35, u108_36, u108_37, u108_38, u108_39, u108_41, u108_42, u108_43, u108_44, u108_45, u108_46, u108_47, u108_48, u108_50, u108_51, u108_52, u108_53, u108_54, u108_55, u108_56, u108_57, u108_58, u108_59, u108_62, u108_64, u108_66, u108_69, u108_71, u108_73, u108_74, u108_76, u108_79, u108_80, u108_81, u108_84, u108_87, u108_88, u108_89, u108_92, ly_kd, ly_al, ly_fv0, ly_fv1, ly_fv2, ly_fv3, ly_fv4, ly_fk, ly_ra, ↓reduceIte, Option.toList, List.cons_append, List.nil_append, q_ski, q_skr, q_sku, if_true, if_false, t_upTo, t_isCell, t_isMourner, t_isKM, t_isUse, t_isSheet, t_ref1, t_ref2, t_ref3, t_ref4, t_ref5, q_b0, q_not, and_self, hc]
    refine hk _ _ (q_hi_up q_hi.rf (by omega)) (fun R2 hr2 => ?_)
    simp only [s218, u218_0, u218_1, u218_4, u218_7, u218_8, u218_9, u218_12, u218_13, u218_16, u218_18, u218_21, u218_24, u218_25, u218_28, u218_31, u218_32, u218_33, u218_36, u218_37, u218_40, u218_41, u218_42, u218_44, u218_47, u218_48, u218_49, u218_52, u218_55, u218_56, u218_57, u218_60, ly_kd, ly_al, ly_fv0, ly_fv1, ly_fv2, ly_fv3, ly_fv4, ly_fk, ly_ra, ↓reduceIte, Option.toList, List.cons_append, List.nil_append, q_ski, q_skr, q_sku, if_true, if_false, m_in, m_isCell, m_isMourner, m_isKm, m_isSheet, m_f1, m_f2, m_f3, m_f4, m_f5, q_b0, q_not, and_self, q_wl0, q_wl1, q_wl48, q_wu1, q_wu2, q_wu3, q_wu5, q_wu6, q_wu7, q_wu8, q_wu15, q_wu30, q_wu40, q_wu57, q_wu60, q_wu69, q_wu99, q_wu1584, fa_wide_le, q_up_o (show (84 : Nat) ≠ 79 by decide), hc]
    exact q_P_ref I (by omega) q_fx.rf.fy q_fx.rf.fy hr2
