def q_ab (w : Nat) : Nat := if 3 < w then w - 3 else 0
theorem q_108 : gc_ro 108 0 = -1 ∧ gc_ro 108 1 = 0 ∧ gc_ro 108 2 = 0 ∧ gc_ro 108 3 = 0 ∧ gc_ro 108 4 = 1 ∧ gc_ro 108 5 = 2 ∧ gc_ro 108 6 = 3 := ⟨rfl, rfl, rfl, rfl, rfl, rfl, rfl⟩
theorem t_isUnder {d : Nat} {R : gR} {μ : gM} {w : Nat} {a : Int32} (hw : w ≤ 6) : gc_S (d + 1) 86 [.int (nI w), .int a] μ R ↔ R (some (.int (q_b (a = 0 ∨ a = nI w ∨ a = nI (q_ab w))))) μ := by
  simp only [s86, u86_0, u86_1, u86_2, u86_3, u86_5, u86_7, u86_10, u86_11, u86_14, u86_15, u86_16, u86_19, u86_20, u86_21, u86_24, u86_25, u86_26, u86_27, u86_30, u86_33, u86_34, Option.toList, List.cons_append, List.nil_append, q_ski, q_skr, q_sku, if_true, if_false]
  have stop : ∀ i, i < 7 → (gc_W (gc_S d) cX11_isUnder 11 1 R 4 [.int (nI w), .int a, .int (-1), .int (nI i)] [] μ ↔ R (some (.int 0)) μ) := fun i hi => by
    refine (u86_4).trans ?_
    simp only [u86_0, u86_1, u86_2, u86_3, u86_5, u86_7, u86_10, u86_11, u86_14, u86_15, u86_16, u86_19, u86_20, u86_21, u86_24, u86_25, u86_26, u86_27, u86_30, u86_33, u86_34, Option.toList, List.cons_append, List.nil_append, q_ski, q_skr, q_sku, if_true, if_false, q_nle hi (by decide) (show (7 : Int32) = nI 7 from rfl), show (-1 : Int32) < 0 by decide, q_z1, true_and, true_or, or_true]
  have step : ∀ (o i : Nat) (z : Int32), o ≤ 6 → i < 7 → gc_ro 108 o = z → (gc_W (gc_S d) cX11_isUnder 11 1 R 4 [.int (nI w), .int a, .int (nI o), .int (nI i)] [] μ ↔ if nI o = a then R (some (.int 1)) μ else gc_W (gc_S d) cX11_isUnder 11 1 R 4 [.int (nI w), .int a, .int z, .int (nI (i + 1))] [] μ) := fun o i z ho hi hz => by
    refine (u86_4).trans ?_
    have al : gc_al 108 = 7 := rfl
    have kd : gc_kd 108 = 30 := rfl
    simp only [u86_0, u86_1, u86_2, u86_3, u86_5, u86_7, u86_10, u86_11, u86_14, u86_15, u86_16, u86_19, u86_20, u86_21, u86_24, u86_25, u86_26, u86_27, u86_30, u86_33, u86_34, Option.toList, List.cons_append, List.nil_append, q_ski, q_skr, q_sku, if_true, if_false, q_nle hi (by decide) (show (7 : Int32) = nI 7 from rfl), nI_pos (show o < 2 ^ 31 by omega), kd, al, vp_in_nI (show o < 7 by omega) (by decide), nI_clamp (show o < 2 ^ 31 by omega), true_and, hz, nI_1, q_z2, true_or, or_true]
  obtain ⟨e0, e1, e2, e3, e4, e5, e6⟩ := q_108
  have z0 : nI 0 = 0 := rfl
  rcases (show w = 0 ∨ w = 1 ∨ w = 2 ∨ w = 3 ∨ w = 4 ∨ w = 5 ∨ w = 6 by omega) with rfl | rfl | rfl | rfl | rfl | rfl | rfl
  · refine (step 0 0 _ (by omega) (by omega) e0).trans ?_
    rw [stop 1 (by omega)]
    by_cases h : nI 0 = a
    · rw [if_pos h, q_bt (p := a = 0 ∨ a = nI 0 ∨ a = nI (q_ab 0)) (Or.inl (h.symm.trans z0))]
    · rw [if_neg h, q_bf (p := a = 0 ∨ a = nI 0 ∨ a = nI (q_ab 0)) (fun z => by rcases z with z | z | z <;> exact h (z.symm ▸ rfl))]
  · refine (step 1 0 (nI 0) (by omega) (by omega) e1).trans ?_
    rw [step 0 1 _ (by omega) (by omega) e0, stop 2 (by omega)]
    by_cases h : nI 1 = a
    · rw [if_pos h, q_bt (p := a = 0 ∨ a = nI 1 ∨ a = nI (q_ab 1)) (Or.inr (Or.inl h.symm))]
    · rw [if_neg h]
      by_cases h2 : nI 0 = a
      · rw [if_pos h2, q_bt (p := a = 0 ∨ a = nI 1 ∨ a = nI (q_ab 1)) (Or.inl (h2.symm.trans z0))]
      · rw [if_neg h2, q_bf (p := a = 0 ∨ a = nI 1 ∨ a = nI (q_ab 1)) (fun z => by rcases z with z | z | z <;> first | exact h z.symm | exact h2 (z.symm ▸ rfl))]
  · refine (step 2 0 (nI 0) (by omega) (by omega) e2).trans ?_
    rw [step 0 1 _ (by omega) (by omega) e0, stop 2 (by omega)]
    by_cases h : nI 2 = a
    · rw [if_pos h, q_bt (p := a = 0 ∨ a = nI 2 ∨ a = nI (q_ab 2)) (Or.inr (Or.inl h.symm))]
    · rw [if_neg h]
      by_cases h2 : nI 0 = a
      · rw [if_pos h2, q_bt (p := a = 0 ∨ a = nI 2 ∨ a = nI (q_ab 2)) (Or.inl (h2.symm.trans z0))]
      · rw [if_neg h2, q_bf (p := a = 0 ∨ a = nI 2 ∨ a = nI (q_ab 2)) (fun z => by rcases z with z | z | z <;> first | exact h z.symm | exact h2 (z.symm ▸ rfl))]
  · refine (step 3 0 (nI 0) (by omega) (by omega) e3).trans ?_
    rw [step 0 1 _ (by omega) (by omega) e0, stop 2 (by omega)]
    by_cases h : nI 3 = a
    · rw [if_pos h, q_bt (p := a = 0 ∨ a = nI 3 ∨ a = nI (q_ab 3)) (Or.inr (Or.inl h.symm))]
    · rw [if_neg h]
      by_cases h2 : nI 0 = a
      · rw [if_pos h2, q_bt (p := a = 0 ∨ a = nI 3 ∨ a = nI (q_ab 3)) (Or.inl (h2.symm.trans z0))]
      · rw [if_neg h2, q_bf (p := a = 0 ∨ a = nI 3 ∨ a = nI (q_ab 3)) (fun z => by rcases z with z | z | z <;> first | exact h z.symm | exact h2 (z.symm ▸ rfl))]
  · refine (step 4 0 (nI 1) (by omega) (by omega) e4).trans ?_
    rw [step 1 1 (nI 0) (by omega) (by omega) e1, step 0 2 _ (by omega) (by omega) e0, stop 3 (by omega)]
    by_cases h : nI 4 = a
    · rw [if_pos h, q_bt (p := a = 0 ∨ a = nI 4 ∨ a = nI (q_ab 4)) (Or.inr (Or.inl h.symm))]
    · rw [if_neg h]
      by_cases h1 : nI 1 = a
      · rw [if_pos h1, q_bt (p := a = 0 ∨ a = nI 4 ∨ a = nI (q_ab 4)) (Or.inr (Or.inr h1.symm))]
      · rw [if_neg h1]
        by_cases h2 : nI 0 = a
        · rw [if_pos h2, q_bt (p := a = 0 ∨ a = nI 4 ∨ a = nI (q_ab 4)) (Or.inl (h2.symm.trans z0))]
        · rw [if_neg h2, q_bf (p := a = 0 ∨ a = nI 4 ∨ a = nI (q_ab 4)) (fun z => by rcases z with z | z | z <;> first | exact h z.symm | exact h1 z.symm | exact h2 (z.symm ▸ rfl))]
  · refine (step 5 0 (nI 2) (by omega) (by omega) e5).trans ?_
    rw [step 2 1 (nI 0) (by omega) (by omega) e2, step 0 2 _ (by omega) (by omega) e0, stop 3 (by omega)]
    by_cases h : nI 5 = a
    · rw [if_pos h, q_bt (p := a = 0 ∨ a = nI 5 ∨ a = nI (q_ab 5)) (Or.inr (Or.inl h.symm))]
    · rw [if_neg h]
      by_cases h1 : nI 2 = a
      · rw [if_pos h1, q_bt (p := a = 0 ∨ a = nI 5 ∨ a = nI (q_ab 5)) (Or.inr (Or.inr h1.symm))]
      · rw [if_neg h1]
        by_cases h2 : nI 0 = a
        · rw [if_pos h2, q_bt (p := a = 0 ∨ a = nI 5 ∨ a = nI (q_ab 5)) (Or.inl (h2.symm.trans z0))]
        · rw [if_neg h2, q_bf (p := a = 0 ∨ a = nI 5 ∨ a = nI (q_ab 5)) (fun z => by rcases z with z | z | z <;> first | exact h z.symm | exact h1 z.symm | exact h2 (z.symm ▸ rfl))]
  · refine (step 6 0 (nI 3) (by omega) (by omega) e6).trans ?_
    rw [step 3 1 (nI 0) (by omega) (by omega) e3, step 0 2 _ (by omega) (by omega) e0, stop 3 (by omega)]
    by_cases h : nI 6 = a
    · rw [if_pos h, q_bt (p := a = 0 ∨ a = nI 6 ∨ a = nI (q_ab 6)) (Or.inr (Or.inl h.symm))]
    · rw [if_neg h]
      by_cases h1 : nI 3 = a
      · rw [if_pos h1, q_bt (p := a = 0 ∨ a = nI 6 ∨ a = nI (q_ab 6)) (Or.inr (Or.inr h1.symm))]
      · rw [if_neg h1]
        by_cases h2 : nI 0 = a
        · rw [if_pos h2, q_bt (p := a = 0 ∨ a = nI 6 ∨ a = nI (q_ab 6)) (Or.inl (h2.symm.trans z0))]
        · rw [if_neg h2, q_bf (p := a = 0 ∨ a = nI 6 ∨ a = nI (q_ab 6)) (fun z => by rcases z with z | z | z <;> first | exact h z.symm | exact h1 z.symm | exact h2 (z.symm ▸ rfl))]
theorem m_above {d : Nat} {R : gR} {μ : gM} {w : Nat} (hw : w ≤ 6) : gc_S (d + 1) 148 [.int (nI w)] μ R ↔ R (some (.int (nI (q_ab w)))) μ := by
  unfold q_ab
  by_cases h : 3 < w
  · rw [if_pos h]
    simp only [s148, u148_0, u148_1, u148_2, u148_5, u148_6, u148_7, u148_8, u148_11, u148_12, Option.toList, List.cons_append, List.nil_append, q_ski, q_skr, q_sku, if_true, if_false, show ¬ nI w ≤ 3 from (show ¬ nI w ≤ nI 3 from nI_ge h (by omega)), show nI w - 3 = nI (w - 3) from (show nI w - nI 3 = nI (w - 3) from pk_sub (by omega))]
  · rw [if_neg h]
    simp only [s148, u148_0, u148_1, u148_2, u148_5, u148_6, u148_7, u148_8, u148_11, u148_12, Option.toList, List.cons_append, List.nil_append, q_ski, q_skr, q_sku, if_true, if_false, show nI w ≤ 3 from (show nI w ≤ nI 3 from nI_le (by omega) (by omega))]
    exact Iff.rfl
theorem p_as {k a : Int32} : q_P 87 196 [.ref 0, .int k, .int a] [.ref 83, .int k, .int a] := by
  intro μ R I hk
  obtain ⟨ok, ⟨y, hy, hy2⟩, hR, hL⟩ := q_c31 I
  obtain ⟨n, hn, hn', hn8⟩ := q_n31 I
  have gm := q_gm (k := k) hn8
  by_cases h1 : 0 ≤ k ∧ k < nI n
  · have h1' := gm.mp h1
    by_cases h2 : 0 ≤ a ∧ a ≤ 6
    · obtain ⟨i, hi, rfl⟩ := q_km hn8 h1
      have vi : vp_in (nI i) 8 := vp_in_nI (by omega) (by decide)
      have ci : (nI i).toNatClampNeg = i := nI_clamp (by omega)
      obtain ⟨⟨w, hw, hw6⟩, -⟩ := ok.2.2.2.2.2.1 i (by omega)
      have e4 : μ 35 i = nI w := (hR.2.2.1 i (by omega)).trans hw
      have e5 : μ 36 i = μ 84 (44 + 4 * i) := hR.2.2.2.1 i (by omega)
      have hwi := q_wi (show i < 8 by omega)
      simp only [s87, u87_0, u87_1, u87_2, u87_5, u87_8, u87_10, u87_11, u87_14, u87_17, u87_18, u87_19, u87_22, u87_23, u87_24, u87_27, u87_30, u87_31, u87_32, u87_33, u87_36, u87_39, u87_40, u87_43, u87_46, u87_47, u87_48, u87_51, u87_52, u87_53, u87_56, ly_kd, ly_al, ly_fv0, ly_fv1, ly_fv2, ly_fv3, ly_fv4, ly_fk, ly_ra, Option.toList, List.cons_append, List.nil_append, q_ski, q_skr, q_sku, if_true, if_false, t_upTo, t_isCell, t_isMourner, t_isKM, t_isUse, t_isSheet, t_ref1, t_ref2, t_ref3, t_ref4, t_ref5, q_b0, q_not, and_self, hn', h1, h2, vi, ci, true_and, e4, t_isUnder hw6, e5]
      by_cases hu : a = 0 ∨ a = nI w ∨ a = nI (q_ab w)
      · simp only [hu, if_true]
        refine hk _ _ q_hi.rf (fun R2 h4 => ?_)
        simp only [s196, u196_0, u196_1, u196_2, u196_5, u196_8, u196_9, u196_10, u196_11, u196_14, u196_17, u196_20, u196_21, u196_22, u196_25, u196_26, u196_27, u196_28, u196_29, u196_32, u196_33, u196_34, u196_37, u196_38, u196_39, u196_42, u196_43, u196_44, u196_47, u196_51, u196_52, u196_53, u196_56, u196_59, u196_60, u196_61, u196_64, ly_kd, ly_al, ly_fv0, ly_fv1, ly_fv2, ly_fv3, ly_fv4, ly_fk, ly_ra, Option.toList, List.cons_append, List.nil_append, q_ski, q_skr, q_sku, if_true, if_false, m_in, m_isCell, m_isMourner, m_isKm, m_isSheet, m_f1, m_f2, m_f3, m_f4, m_f5, q_b0, q_not, and_self, q_wl0, q_wl1, q_wl48, q_wu1, q_wu2, q_wu3, q_wu5, q_wu6, q_wu7, q_wu8, q_wu15, q_wu30, q_wu40, q_wu57, q_wu60, q_wu69, q_wu99, q_wu1584, fa_wide_le, q_up_o (show (84 : Nat) ≠ 79 by decide), m_of, hwi, true_and, hn, h1', h2, hw, m_above hw6]
        have fin2 : gc_W (gc_S 99) cX12_as 12 0 R2 50 [.ref 83, .int (nI i), .int a, .int (nI w)] [] μ := by
          simp only [u196_0, u196_1, u196_2, u196_5, u196_8, u196_9, u196_10, u196_11, u196_14, u196_17, u196_20, u196_21, u196_22, u196_25, u196_26, u196_27, u196_28, u196_29, u196_32, u196_33, u196_34, u196_37, u196_38, u196_39, u196_42, u196_43, u196_44, u196_47, u196_50, u196_51, u196_52, u196_53, u196_56, u196_59, u196_60, u196_61, u196_64, ly_kd, ly_al, ly_fv0, ly_fv1, ly_fv2, ly_fv3, ly_fv4, ly_fk, ly_ra, Option.toList, List.cons_append, List.nil_append, q_ski, q_skr, q_sku, if_true, if_false, m_of, hwi, true_and]
          exact h4 μ I q_hi.rf
        by_cases a0 : a = 0
        · rw [if_pos a0]; exact fin2
        · by_cases a1 : a = nI w
          · rw [if_neg a0, if_pos a1]; exact fin2
          · have a2 : a = nI (q_ab w) := by
              rcases hu with z | z | z
              · exact absurd z a0
              · exact absurd z a1
              · exact z
            rw [if_neg a0, if_neg a1, if_pos a2]; exact fin2
      · simp only [hu, if_false]
        refine hk _ _ (q_hi_up q_hi.rf (by omega)) (fun R2 h4 => ?_)
        have a0 : ¬ a = 0 := fun z => hu (Or.inl z)
        have a1 : ¬ a = nI w := fun z => hu (Or.inr (Or.inl z))
        have a2 : ¬ a = nI (q_ab w) := fun z => hu (Or.inr (Or.inr z))
        simp only [s196, u196_0, u196_1, u196_2, u196_5, u196_8, u196_9, u196_10, u196_11, u196_14, u196_17, u196_20, u196_21, u196_22, u196_25, u196_26, u196_27, u196_28, u196_29, u196_32, u196_33, u196_34, u196_37, u196_38, u196_39, u196_42, u196_43, u196_44, u196_47, u196_50, u196_51, u196_52, u196_53, u196_56, u196_59, u196_60, u196_61, u196_64, ly_kd, ly_al, ly_fv0, ly_fv1, ly_fv2, ly_fv3, ly_fv4, ly_fk, ly_ra, Option.toList, List.cons_append, List.nil_append, q_ski, q_skr, q_sku, if_true, if_false, m_in, m_isCell, m_isMourner, m_isKm, m_isSheet, m_f1, m_f2, m_f3, m_f4, m_f5, q_b0, q_not, and_self, q_wl0, q_wl1, q_wl48, q_wu1, q_wu2, q_wu3, q_wu5, q_wu6, q_wu7, q_wu8, q_wu15, q_wu30, q_wu40, q_wu57, q_wu60, q_wu69, q_wu99, q_wu1584, fa_wide_le, q_up_o (show (84 : Nat) ≠ 79 by decide), m_of, hwi, true_and, hn, h1', h2, hw, m_above hw6, a0, a1, a2]
        exact q_P_ref I (by omega) q_fx.rf.fy q_fx.rf.fy h4
    · exact (by
      simp only [s87, u87_0, u87_1, u87_2, u87_5, u87_8, u87_10, u87_11, u87_14, u87_17, u87_18, u87_19, u87_22, u87_23, u87_24, u87_27, u87_30, u87_31, u87_32, u87_33, u87_36, u87_39, u87_40, u87_43, u87_46, u87_47, u87_48, u87_51, u87_52, u87_53, u87_56, ly_kd, ly_al, ly_fv0, ly_fv1, ly_fv2, ly_fv3, ly_fv4, ly_fk, ly_ra, Option.toList, List.cons_append, List.nil_append, q_ski, q_skr, q_sku, if_true, if_false, t_upTo, t_isCell, t_isMourner, t_isKM, t_isUse, t_isSheet, t_ref1, t_ref2, t_ref3, t_ref4, t_ref5, q_b0, q_not, and_self, hn, hn', h1, h1', h2]
      refine hk _ _ (q_hi_up q_hi.rf (by omega)) (fun R2 hr2 => ?_)
      simp only [s196, u196_0, u196_1, u196_2, u196_5, u196_8, u196_9, u196_10, u196_11, u196_14, u196_17, u196_20, u196_21, u196_22, u196_25, u196_26, u196_27, u196_28, u196_29, u196_32, u196_33, u196_34, u196_37, u196_38, u196_39, u196_42, u196_43, u196_44, u196_47, u196_50, u196_51, u196_52, u196_53, u196_56, u196_59, u196_60, u196_61, u196_64, ly_kd, ly_al, ly_fv0, ly_fv1, ly_fv2, ly_fv3, ly_fv4, ly_fk, ly_ra, Option.toList, List.cons_append, List.nil_append, q_ski, q_skr, q_sku, if_true, if_false, m_in, m_isCell, m_isMourner, m_isKm, m_isSheet, m_f1, m_f2, m_f3, m_f4, m_f5, q_b0, q_not, and_self, q_wl0, q_wl1, q_wl48, q_wu1, q_wu2, q_wu3, q_wu5, q_wu6, q_wu7, q_wu8, q_wu15, q_wu30, q_wu40, q_wu57, q_wu60, q_wu69, q_wu99, q_wu1584, fa_wide_le, q_up_o (show (84 : Nat) ≠ 79 by decide), hn, hn', h1, h1', h2]
      exact q_P_ref I (by omega) q_fx.rf.fy q_fx.rf.fy hr2)
  · have h1' : ¬ (0 ≤ k ∧ k ≤ nI n - 1) := fun z => h1 (gm.mpr z)
    exact (by
      simp only [s87, u87_0, u87_1, u87_2, u87_5, u87_8, u87_10, u87_11, u87_14, u87_17, u87_18, u87_19, u87_22, u87_23, u87_24, u87_27, u87_30, u87_31, u87_32, u87_33, u87_36, u87_39, u87_40, u87_43, u87_46, u87_47, u87_48, u87_51, u87_52, u87_53, u87_56, ly_kd, ly_al, ly_fv0, ly_fv1, ly_fv2, ly_fv3, ly_fv4, ly_fk, ly_ra, Option.toList, List.cons_append, List.nil_append, q_ski, q_skr, q_sku, if_true, if_false, t_upTo, t_isCell, t_isMourner, t_isKM, t_isUse, t_isSheet, t_ref1, t_ref2, t_ref3, t_ref4, t_ref5, q_b0, q_not, and_self, hn, hn', h1, h1']
      refine hk _ _ (q_hi_up q_hi.rf (by omega)) (fun R2 hr2 => ?_)
      simp only [s196, u196_0, u196_1, u196_2, u196_5, u196_8, u196_9, u196_10, u196_11, u196_14, u196_17, u196_20, u196_21, u196_22, u196_25, u196_26, u196_27, u196_28, u196_29, u196_32, u196_33, u196_34, u196_37, u196_38, u196_39, u196_42, u196_43, u196_44, u196_47, u196_50, u196_51, u196_52, u196_53, u196_56, u196_59, u196_60, u196_61, u196_64, ly_kd, ly_al, ly_fv0, ly_fv1, ly_fv2, ly_fv3, ly_fv4, ly_fk, ly_ra, Option.toList, List.cons_append, List.nil_append, q_ski, q_skr, q_sku, if_true, if_false, m_in, m_isCell, m_isMourner, m_isKm, m_isSheet, m_f1, m_f2, m_f3, m_f4, m_f5, q_b0, q_not, and_self, q_wl0, q_wl1, q_wl48, q_wu1, q_wu2, q_wu3, q_wu5, q_wu6, q_wu7, q_wu8, q_wu15, q_wu30, q_wu40, q_wu57, q_wu60, q_wu69, q_wu99, q_wu1584, fa_wide_le, q_up_o (show (84 : Nat) ≠ 79 by decide), hn, hn', h1, h1']
      exact q_P_ref I (by omega) q_fx.rf.fy q_fx.rf.fy hr2)
