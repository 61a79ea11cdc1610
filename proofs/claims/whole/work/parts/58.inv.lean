/-! what holds between two calls -/
def q_Ll (l : Nat) (D : Nat → Int32) (μ : gM) : Prop := ∀ u, u < 2 → μ (l + 4 * u + 1) 1 = D (75 + u) ∧ ∀ n, n ≤ 50 → D (75 + u) = nI n → ∀ j, j < n → μ (l + 4 * u + 2) j = q_enc (q_code D u j)
def q_tp (k : Nat) (D : Nat → Int32) (μ : gM) : Prop := ∃ t, D 3 = nI t ∧ t ≤ 50 ∧ μ (k + 8) 1 = nI t ∧ ∀ j, j < t → μ (k + 9) j = D (197 + j) ∧ ∃ b, b < 256 ∧ D (197 + j) = nI b
def q_wa (k : Nat) (D : Nat → Int32) (μ : gM) : Prop := ∃ t, D 4 = nI t ∧ t ≤ 20 ∧ μ (k + 10) 1 = nI t ∧ ∀ j, j < t → μ (k + 11) j = D (77 + j)
/-- the cloth at k with its laws at l holds all of D -/
def q_CL (k l : Nat) (D : Nat → Int32) (μ : gM) : Prop := q_ok D ∧ (∃ y, D 1 = nI y ∧ y ≤ 10000) ∧ q_R k D μ ∧ μ k 14 = D 2 ∧ q_Ll l D μ ∧ q_tp k D μ ∧ q_wa k D μ
def q_sh (μ : gM) : Prop := ∀ s, s < 4 → μ (68 + 2 * s) 2 = μ 98 s ∧ (μ 98 s = 0 ∨ μ 98 s = 8 ∨ μ 98 s = 16 ∨ μ 98 s = 32) ∧ (∃ n, n ≤ 40 ∧ μ 99 s = nI n ∧ μ (68 + 2 * s) 1 = nI n) ∧ ∀ j, j < 40 → μ (69 + 2 * s) j = μ 100 (40 * s + j)
def q_tr (μ : gM) : Prop := ∃ t, t ≤ 40 ∧ μ 77 1 = nI t ∧ μ 83 22 = nI t ∧ ∀ j, j < t → μ 78 j = μ 97 j
def q_rf (μ : gM) : Prop := ∀ k, 1 ≤ k → k ≤ 5 → μ 79 k = μ 87 k
def q_im (μ : gM) : Prop := μ 0 9 = μ 83 3 ∧ (¬ μ 0 9 = 0 → q_CL 55 19 (μ 85) μ)
def q_I (μ : gM) : Prop := q_CL 31 11 (μ 84) μ ∧ q_im μ ∧ q_sh μ ∧ q_tr μ ∧ q_rf μ
/-- rows that are written ahead of every reading -/
def q_scr (o : Nat) : Prop := o = 14 ∨ o = 18 ∨ o = 22 ∨ (26 ≤ o ∧ o ≤ 30) ∨ o = 33 ∨ (43 ≤ o ∧ o ≤ 54) ∨ o = 57 ∨ o = 76 ∨ (80 ≤ o ∧ o ≤ 82) ∨ o = 86 ∨ (88 ≤ o ∧ o ≤ 96) ∨ o = 101
def q_fx (μ μ' : gM) : Prop := ∀ o, ¬ q_scr o → μ' o = μ o
theorem q_fx.rf {μ : gM} : q_fx μ μ := fun _ _ => rfl
theorem q_fx.tr {μ μ1 μ2 : gM} (h : q_fx μ μ1) (h2 : q_fx μ1 μ2) : q_fx μ μ2 := fun o a => (h2 o a).trans (h o a)
theorem q_g.fx {μ μ' : gM} (h : q_g 43 μ μ') : q_fx μ μ' := fun o a => h o (by unfold q_scr at a; omega) (by unfold q_scr at a; omega) (by unfold q_scr at a; omega)
theorem q_f2.fx {μ μ' : gM} (h : q_f2 μ μ') : q_fx μ μ' := fun o a => h o (by unfold q_scr at a; omega) (by unfold q_scr at a; omega) (by unfold q_scr at a; omega) (by unfold q_scr at a; omega)
theorem q_Ll_mem {l : Nat} {D : Nat → Int32} {μ μ' : gM} (h : q_Ll l D μ) (e : ∀ o, o = l + 1 ∨ o = l + 2 ∨ o = l + 5 ∨ o = l + 6 → μ' o = μ o) : q_Ll l D μ' := by
  intro u hu
  have h1 := h u hu
  rw [e (l + 4 * u + 1) (by omega), e (l + 4 * u + 2) (by omega)]
  exact h1
theorem q_tp_mem {k : Nat} {D : Nat → Int32} {μ μ' : gM} (h : q_tp k D μ) (e1 : μ' (k + 8) = μ (k + 8)) (e2 : μ' (k + 9) = μ (k + 9)) : q_tp k D μ' := by
  unfold q_tp; rw [e1, e2]; exact h
theorem q_wa_mem {k : Nat} {D : Nat → Int32} {μ μ' : gM} (h : q_wa k D μ) (e1 : μ' (k + 10) = μ (k + 10)) (e2 : μ' (k + 11) = μ (k + 11)) : q_wa k D μ' := by
  unfold q_wa; rw [e1, e2]; exact h
theorem q_CL_mem {k l : Nat} {D : Nat → Int32} {μ μ' : gM} (h : q_CL k l D μ) (e : ∀ o, (k ≤ o ∧ o ≤ k + 11 ∧ o ≠ k + 2) ∨ o = l + 1 ∨ o = l + 2 ∨ o = l + 5 ∨ o = l + 6 → μ' o = μ o) : q_CL k l D μ' := by
  obtain ⟨h1, h2, h3, h4, h5, h6, h7⟩ := h
  exact ⟨h1, h2, q_R_mem h3 (fun o a b c => e o (by omega)), by rw [e k (by omega)]; exact h4, q_Ll_mem h5 (fun o ho => e o (by omega)), q_tp_mem h6 (e _ (by omega)) (e _ (by omega)), q_wa_mem h7 (e _ (by omega)) (e _ (by omega))⟩
theorem q_im_mem {μ μ' : gM} (h : q_im μ) (e0 : μ' 0 9 = μ 0 9) (e1 : μ' 83 3 = μ 83 3) (e2 : μ' 85 = μ 85) (e : ∀ o, (55 ≤ o ∧ o ≤ 66 ∧ o ≠ 57) ∨ o = 20 ∨ o = 21 ∨ o = 24 ∨ o = 25 → μ' o = μ o) : q_im μ' := by
  obtain ⟨h1, h2⟩ := h
  unfold q_im
  rw [e0, e1, e2]
  exact ⟨h1, fun hz => q_CL_mem (h2 hz) (fun o ho => e o (by omega))⟩
theorem q_sh_mem {μ μ' : gM} (h : q_sh μ) (e : ∀ o, (68 ≤ o ∧ o ≤ 75) ∨ (98 ≤ o ∧ o ≤ 100) → μ' o = μ o) : q_sh μ' := by
  intro s hs
  have h1 := h s hs
  rw [e (68 + 2 * s) (by omega), e (69 + 2 * s) (by omega), e 98 (by omega), e 99 (by omega), e 100 (by omega)]
  exact h1
theorem q_tr_mem {μ μ' : gM} (h : q_tr μ) (e1 : μ' 77 = μ 77) (e2 : μ' 83 22 = μ 83 22) (e3 : μ' 78 = μ 78) (e4 : μ' 97 = μ 97) : q_tr μ' := by
  unfold q_tr; rw [e1, e2, e3, e4]; exact h
theorem q_rf_mem {μ μ' : gM} (h : q_rf μ) (e1 : μ' 79 = μ 79) (e2 : μ' 87 = μ 87) : q_rf μ' := by
  unfold q_rf; rw [e1, e2]; exact h
/-- nothing that is kept between calls has changed -/
def q_fy (μ μ' : gM) : Prop := (∀ o, ¬ q_scr o → o ≠ 83 → μ' o = μ o) ∧ μ' 83 3 = μ 83 3 ∧ μ' 83 22 = μ 83 22
theorem q_fx.fy {μ μ' : gM} (h : q_fx μ μ') : q_fy μ μ' := ⟨fun o a _ => h o a, by rw [h 83 (by unfold q_scr; omega)], by rw [h 83 (by unfold q_scr; omega)]⟩
theorem q_fy.tr {μ μ1 μ2 : gM} (h : q_fy μ μ1) (h2 : q_fy μ1 μ2) : q_fy μ μ2 := ⟨fun o a b => (h2.1 o a b).trans (h.1 o a b), h2.2.1.trans h.2.1, h2.2.2.trans h.2.2⟩
theorem q_I_fy {μ μ' : gM} (h : q_I μ) (e : q_fy μ μ') : q_I μ' := by
  obtain ⟨h1, h2, h3, h4, h5⟩ := h
  obtain ⟨e, e3, e22⟩ := e
  have n : ∀ o, ¬ (o = 14 ∨ o = 18 ∨ o = 22 ∨ (26 ≤ o ∧ o ≤ 30) ∨ o = 33 ∨ (43 ≤ o ∧ o ≤ 54) ∨ o = 57 ∨ o = 76 ∨ (80 ≤ o ∧ o ≤ 82) ∨ o = 86 ∨ (88 ≤ o ∧ o ≤ 96) ∨ o = 101 ∨ o = 83) → μ' o = μ o := fun o ho => e o (by unfold q_scr; omega) (by omega)
  refine ⟨?_, q_im_mem h2 (by rw [n 0 (by omega)]) e3 (n _ (by omega)) (fun o ho => n o (by omega)), q_sh_mem h3 (fun o ho => n o (by omega)), q_tr_mem h4 (n _ (by omega)) e22 (n _ (by omega)) (n _ (by omega)), q_rf_mem h5 (n _ (by omega)) (n _ (by omega))⟩
  rw [n 84 (by omega)]
  exact q_CL_mem h1 (fun o ho => n o (by omega))
/-- both refuse -/
theorem q_I_ref {μ μ1 μ2 : gM} {k : Nat} (h : q_I μ) (hk : 1 ≤ k ∧ k ≤ 5) (e1 : q_fy μ μ1) (e2 : q_fy (gc_up μ1 79 k (μ1 79 k + 1)) μ2) : q_I (gc_up μ2 87 k (μ2 87 k + 1)) := by
  have i1 := q_I_fy h e1
  obtain ⟨h1, h2, h3, h4, h5⟩ := i1
  have i2 : ∀ j, 1 ≤ j → j ≤ 5 → gc_up μ2 87 k (μ2 87 k + 1) 79 j = gc_up μ2 87 k (μ2 87 k + 1) 87 j := by
    intro j a b
    have c1 : μ2 79 = gc_up μ1 79 k (μ1 79 k + 1) 79 := e2.1 79 (by unfold q_scr; omega) (by omega)
    have c2 : μ2 87 = μ1 87 := by rw [e2.1 87 (by unfold q_scr; omega) (by omega)]; exact gc_up_ne (by omega)
    rw [gc_up_ne (by omega), c1]
    by_cases e : j = k
    · subst e
      rw [q_up_same, q_up_same, c2, h5 j a b]
    · rw [q_up_j e, q_up_j e, c2, h5 j a b]
  have n : ∀ o, ¬ (o = 14 ∨ o = 18 ∨ o = 22 ∨ (26 ≤ o ∧ o ≤ 30) ∨ o = 33 ∨ (43 ≤ o ∧ o ≤ 54) ∨ o = 57 ∨ o = 76 ∨ (80 ≤ o ∧ o ≤ 82) ∨ o = 86 ∨ (88 ≤ o ∧ o ≤ 96) ∨ o = 101 ∨ o = 83 ∨ o = 79 ∨ o = 87) → gc_up μ2 87 k (μ2 87 k + 1) o = μ1 o := fun o ho => by
    rw [gc_up_ne (by omega), e2.1 o (by unfold q_scr; omega) (by omega), gc_up_ne (by omega)]
  have n3 : ∀ j, j = 3 ∨ j = 22 → gc_up μ2 87 k (μ2 87 k + 1) 83 j = μ1 83 j := fun j hj => by
    rw [gc_up_ne (by omega)]
    rcases hj with rfl | rfl
    · rw [e2.2.1, gc_up_ne (by omega)]
    · rw [e2.2.2, gc_up_ne (by omega)]
  refine ⟨?_, q_im_mem h2 (by rw [n 0 (by omega)]) (n3 3 (by omega)) (n _ (by omega)) (fun o ho => n o (by omega)), q_sh_mem h3 (fun o ho => n o (by omega)), q_tr_mem h4 (n _ (by omega)) (n3 22 (by omega)) (n _ (by omega)) (n _ (by omega)), i2⟩
  rw [n 84 (by omega)]
  exact q_CL_mem h1 (fun o ho => n o (by omega))
def q_hi (μ μ' : gM) : Prop := ∀ o, 102 ≤ o → μ' o = μ o
theorem q_hi.rf {μ : gM} : q_hi μ μ := fun _ _ => rfl
theorem q_fy.hi {μ μ' : gM} (h : q_fy μ μ') : q_hi μ μ' := fun o ho => h.1 o (by unfold q_scr; omega) (by omega)
theorem q_hi_up {μ μ' : gM} {o j : Nat} {x : Int32} (h : q_hi μ μ') (ho : o < 102) : q_hi μ (gc_up μ' o j x) := fun o' h' => by rw [gc_up_ne (by omega)]; exact h o' h'
theorem q_hi.tr {μ μ1 μ2 : gM} (h : q_hi μ μ1) (h2 : q_hi μ1 μ2) : q_hi μ μ2 := fun o a => (h2 o a).trans (h o a)
/-- the call Mx of what is checked and the call Mm of the reference behind it answer the same -/
def q_P (Mx Mm : Nat) (ax am : List Value) : Prop := ∀ (μ : gM) (R1 : gR), q_I μ → (∀ r μ1, q_hi μ μ1 → (∀ R2 : gR, (∀ μ2, q_I μ2 → q_hi μ1 μ2 → R2 (some (.int r)) μ2) → gc_S 100 Mm am μ1 R2) → R1 (some (.int r)) μ1) → gc_S 100 Mx ax μ R1
/-- a pair that refuses -/
theorem q_P_ref {μ μ1 μ2 : gM} {R2 : gR} {k : Nat} {x : Int32} (h : q_I μ) (hk : 1 ≤ k ∧ k ≤ 5) (e1 : q_fy μ μ1) (e2 : q_fy (gc_up μ1 79 k (μ1 79 k + 1)) μ2) (h2 : ∀ μ3, q_I μ3 → q_hi (gc_up μ1 79 k (μ1 79 k + 1)) μ3 → R2 (some (.int x)) μ3) : R2 (some (.int x)) (gc_up μ2 87 k (μ2 87 k + 1)) := h2 _ (q_I_ref h hk e1 e2) (q_hi_up e2.hi (by omega))
theorem q_c31 {μ : gM} (h : q_I μ) : q_ok (μ 84) ∧ (∃ y, μ 84 1 = nI y ∧ y ≤ 10000) ∧ q_R 31 (μ 84) μ ∧ q_L (μ 84) μ := ⟨h.1.1, h.1.2.1, h.1.2.2.1, h.1.2.2.2.2.1⟩
theorem q_n31 {μ : gM} (h : q_I μ) : ∃ n, μ 84 0 = nI n ∧ μ 31 13 = nI n ∧ n ≤ 8 := by
  obtain ⟨h1, h2, h3, h4⟩ := q_c31 h
  obtain ⟨⟨n, hn, hn8⟩, -⟩ := h1
  exact ⟨n, hn, by rw [h3.2.2.2.2.2.2.2.2, hn], hn8⟩
/-- the two guards of a mourner's number are one -/
theorem q_gm {n : Nat} {k : Int32} (hn : n ≤ 8) : (0 ≤ k ∧ k < nI n) ↔ (0 ≤ k ∧ k ≤ nI n - 1) := by
  rcases Nat.eq_zero_or_pos n with rfl | hp
  · constructor
    · rintro ⟨a, b⟩
      exact absurd (Int32.lt_of_le_of_lt a b) (by decide)
    · rintro ⟨a, b⟩
      exact absurd (Int32.le_trans a b) (by decide)
  · obtain ⟨m, rfl⟩ : ∃ m, n = m + 1 := ⟨n - 1, by omega⟩
    rw [nI_pred]
    constructor
    · rintro ⟨a, b⟩
      refine ⟨a, ?_⟩
      obtain ⟨j, hj, rfl⟩ := nI_of (Int32.not_lt.mpr a)
      have := (nI_ltI hj (by omega)).mp b
      exact nI_le (by omega) (by omega)
    · rintro ⟨a, b⟩
      refine ⟨a, ?_⟩
      obtain ⟨j, hj, rfl⟩ := nI_of (Int32.not_lt.mpr a)
      have := (nI_leI hj (by omega)).mp b
      exact nI_lt (by omega) (by omega)
theorem q_km {n : Nat} {k : Int32} (hn : n ≤ 8) (h : 0 ≤ k ∧ k < nI n) : ∃ j, j < n ∧ k = nI j := by
  obtain ⟨j, hj, rfl⟩ := nI_of (Int32.not_lt.mpr h.1)
  exact ⟨j, (nI_ltI hj (by omega)).mp h.2, rfl⟩
theorem t_isMourner {d : Nat} {R : gR} {μ : gM} {k : Int32} : gc_S (d + 1) 82 [.ref 0, .int k] μ R ↔ R (some (.int (q_b (0 ≤ k ∧ k < μ 31 13)))) μ := by
  simp only [s82, u82_0, u82_1, u82_4, u82_5, u82_6, u82_9, u82_12, u82_15, u82_16, u82_19, u82_20, ly_kd, ly_al, ly_fv0, ly_fv1, ly_fv2, ly_fv3, ly_fv4, ly_fk, ly_ra, Option.toList, List.cons_append, List.nil_append, q_ski, q_skr, q_sku, if_true, if_false, q_z1, q_z2, true_and]
  unfold q_b
  by_cases ha : k < 0
  · have : ¬ (0 ≤ k ∧ k < μ 31 13) := fun h => absurd h.1 (Int32.not_le.mpr ha)
    simp [ha, this]
  · have h0 := Int32.not_lt.mp ha
    by_cases hb : μ 31 13 ≤ k
    · have : ¬ (0 ≤ k ∧ k < μ 31 13) := fun h => absurd h.2 (Int32.not_lt.mpr hb)
      simp [ha, hb, this]
    · simp [ha, hb, h0, Int32.not_le.mp hb]
theorem t_isKM {d : Nat} {R : gR} {μ : gM} {k : Int32} : gc_S (d + 2) 80 [.int k] μ R ↔ R (some (.int (q_b (0 ≤ k ∧ k ≤ 69)))) μ := by
  simp only [s80, u80_0, u80_2, u80_3, u80_6, t_upTo, Option.toList, List.cons_append, List.nil_append, q_ski, q_skr, q_sku, if_true, if_false, q_b01, true_and]
theorem t_isUse {d : Nat} {R : gR} {μ : gM} {k : Int32} : gc_S (d + 2) 89 [.int k] μ R ↔ R (some (.int (q_b (0 ≤ k ∧ k ≤ 1)))) μ := by
  simp only [s89, u89_0, u89_1, u89_2, u89_5, t_upTo, Option.toList, List.cons_append, List.nil_append, q_ski, q_skr, q_sku, if_true, if_false, q_b01, true_and]
theorem t_isSheet {d : Nat} {R : gR} {μ : gM} {k : Int32} : gc_S (d + 2) 121 [.int k] μ R ↔ R (some (.int (q_b (0 ≤ k ∧ k ≤ 3)))) μ := by
  simp only [s121, u121_0, u121_1, u121_2, u121_5, t_upTo, Option.toList, List.cons_append, List.nil_append, q_ski, q_skr, q_sku, if_true, if_false, q_b01, true_and]
theorem m_isKm {d : Nat} {R : gR} {μ : gM} {k : Int32} : gc_S (d + 2) 191 [.int k] μ R ↔ R (some (.int (q_b (0 ≤ k ∧ k ≤ 69)))) μ := by
  simp only [s191, u191_0, u191_1, u191_2, u191_3, u191_6, u191_9, ly_kd, ly_al, ly_fv0, ly_fv1, ly_fv2, ly_fv3, ly_fv4, ly_fk, ly_ra, Option.toList, List.cons_append, List.nil_append, q_ski, q_skr, q_sku, if_true, if_false, m_in, q_b01, true_and, q_wl0, q_wl1, q_wl48, q_wu1, q_wu2, q_wu3, q_wu5, q_wu6, q_wu7, q_wu8, q_wu15, q_wu30, q_wu40, q_wu57, q_wu60, q_wu69, q_wu99, q_wu1584, fa_wide_le]
theorem m_isSheet {d : Nat} {R : gR} {μ : gM} {k : Int32} : gc_S (d + 2) 228 [.int k] μ R ↔ R (some (.int (q_b (0 ≤ k ∧ k ≤ 3)))) μ := by
  simp only [s228, u228_0, u228_1, u228_2, u228_3, u228_6, u228_9, ly_kd, ly_al, ly_fv0, ly_fv1, ly_fv2, ly_fv3, ly_fv4, ly_fk, ly_ra, Option.toList, List.cons_append, List.nil_append, q_ski, q_skr, q_sku, if_true, if_false, m_in, q_b01, true_and, q_wl0, q_wl1, q_wl48, q_wu1, q_wu2, q_wu3, q_wu5, q_wu6, q_wu7, q_wu8, q_wu15, q_wu30, q_wu40, q_wu57, q_wu60, q_wu69, q_wu99, q_wu1584, fa_wide_le]
