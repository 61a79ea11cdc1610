theorem m_f1 {d : Nat} {R : gR} {μ : gM} : gc_S (d + 1) 141 [.ref 83, .int 1] μ R ↔ R (some (.int (-1000000001))) (gc_up μ 87 1 (μ 87 1 + 1)) := m_finds (q_vp (by decide : ¬ ((1 : Int32) < 0 ∨ 6 ≤ (1 : Int32).toNatClampNeg)))
theorem m_f2 {d : Nat} {R : gR} {μ : gM} : gc_S (d + 1) 141 [.ref 83, .int 2] μ R ↔ R (some (.int (-1000000002))) (gc_up μ 87 2 (μ 87 2 + 1)) := m_finds (q_vp (by decide : ¬ ((2 : Int32) < 0 ∨ 6 ≤ (2 : Int32).toNatClampNeg)))
theorem m_f3 {d : Nat} {R : gR} {μ : gM} : gc_S (d + 1) 141 [.ref 83, .int 3] μ R ↔ R (some (.int (-1000000003))) (gc_up μ 87 3 (μ 87 3 + 1)) := m_finds (q_vp (by decide : ¬ ((3 : Int32) < 0 ∨ 6 ≤ (3 : Int32).toNatClampNeg)))
theorem m_f4 {d : Nat} {R : gR} {μ : gM} : gc_S (d + 1) 141 [.ref 83, .int 4] μ R ↔ R (some (.int (-1000000004))) (gc_up μ 87 4 (μ 87 4 + 1)) := m_finds (q_vp (by decide : ¬ ((4 : Int32) < 0 ∨ 6 ≤ (4 : Int32).toNatClampNeg)))
theorem m_f5 {d : Nat} {R : gR} {μ : gM} : gc_S (d + 1) 141 [.ref 83, .int 5] μ R ↔ R (some (.int (-1000000005))) (gc_up μ 87 5 (μ 87 5 + 1)) := m_finds (q_vp (by decide : ¬ ((5 : Int32) < 0 ∨ 6 ≤ (5 : Int32).toNatClampNeg)))
theorem q_yrs_hi {D : Nat → Int32} {y : Nat} (hok : q_ok D) (hy : D 1 = nI y) {j : Nat} (hj : 75 ≤ j) : ∀ n, y + n ≤ 20000 → q_yrs D n j = D j
  | 0, _ => rfl
  | n + 1, h => by
    obtain ⟨h1, h2⟩ := q_ok_yrs hok hy n (by omega)
    show q_yr (q_yrs D n) j = D j
    rw [q_yr_at h1 (by omega) (by omega), if_neg (by omega)]
    exact q_yrs_hi hok hy hj n (by omega)
/-- aside from what is put aside and the scratch rows nothing has changed -/
def q_f2 (μ μ' : gM) : Prop := ∀ o, o ≠ 86 → o ≠ 88 → o ≠ 90 → o ≠ 91 → μ' o = μ o
theorem q_back {μ μ1 : gM} (hf : q_fr (gc_cp μ 84 86 0 0 75) μ1) (hh : ∀ j, 75 ≤ j → μ1 84 j = μ 84 j) : q_f2 μ (gc_cp μ1 86 84 0 0 75) := by
  intro o h1 h2 h3 h4
  by_cases e : o = 84
  · subst e
    rw [gc_cp_eq]
    funext j
    unfold va_cpy
    by_cases hj : j < 75
    · rw [if_pos (by omega), hf 86 (by decide) (by decide) (by decide) (by decide), gc_cp_eq]
      unfold va_cpy
      rw [if_pos (by omega)]
      congr 1
      omega
    · rw [if_neg (by omega)]; exact hh j (by omega)
  · rw [gc_cp_ne e, hf o e h2 h3 h4, gc_cp_ne h1]
theorem q_as {μ : gM} : gc_cp μ 84 86 0 0 75 84 = μ 84 := gc_cp_ne (by decide)
theorem m_isAhead {d : Nat} {R : gR} {μ : gM} {n : Int32} : gc_S (d + 2) 202 [.int n] μ R ↔ R (some (.int (q_b (0 ≤ n ∧ n ≤ 60)))) μ := by
  simp only [s202, u202_0, u202_1, u202_2, u202_3, u202_6, u202_9, ly_kd, ly_al, ly_fv0, ly_fv1, ly_fv2, ly_fv3, ly_fv4, ly_fk, ly_ra, Option.toList, List.cons_append, List.nil_append, q_ski, q_skr, q_sku, if_true, if_false, m_in, q_b01, true_and, q_wl0, q_wl1, q_wl48, q_wu1, q_wu2, q_wu3, q_wu5, q_wu6, q_wu7, q_wu8, q_wu15, q_wu30, q_wu40, q_wu57, q_wu60, q_wu69, q_wu99, q_wu1584, fa_wide_le]
theorem m_isLate {d : Nat} {R : gR} {μ : gM} {n : Int32} : gc_S (d + 1) 197 [.ref 83, .int n] μ R ↔ R (some (.int (q_b (9999 < μ 84 1 + n)))) μ := by
  simp only [s197, u197_0, u197_1, u197_4, u197_5, u197_6, u197_7, u197_8, u197_11, u197_14, u197_15, u197_18, u197_19, ly_kd, ly_al, ly_fv0, ly_fv1, ly_fv2, ly_fv3, ly_fv4, ly_fk, ly_ra, Option.toList, List.cons_append, List.nil_append, q_ski, q_skr, q_sku, if_true, if_false, q_v247, q_tn, true_and]
  unfold q_b
  by_cases h : 9999 < μ 84 1 + n
  · simp [h, Int32.not_le.mpr h]
  · simp [h, Int32.not_lt.mp h]
theorem m_years {d : Nat} {R : gR} {μ : gM} {n : Int32} {y : Nat} (hok : q_ok (μ 84)) (hy : μ 84 1 = nI y) (hy2 : y ≤ 10000) (h : if 1 ≤ n ∧ n ≤ 60 then (if 9999 < μ 84 1 + n then R (some (.int (-1000000003))) (gc_up μ 87 3 (μ 87 3 + 1)) else ∀ μ', q_fr μ μ' → μ' 84 = q_yrs (μ 84) n.toNatClampNeg → R (some (.int (q_sum (fun c => q_yrs (μ 84) n.toNatClampNeg (5 + 1 * c)) 16))) μ') else R (some (.int (-1000000001))) (gc_up μ 87 1 (μ 87 1 + 1))) : gc_S (d + 8) 198 [.ref 83, .int n] μ R := by
  simp only [s198, u198_0, u198_1, u198_2, u198_3, u198_6, u198_9, u198_12, u198_13, u198_14, u198_17, u198_18, u198_19, u198_20, u198_23, u198_26, u198_27, u198_28, u198_31, u198_32, u198_33, u198_34, u198_37, u198_38, u198_41, ly_kd, ly_al, ly_fv0, ly_fv1, ly_fv2, ly_fv3, ly_fv4, ly_fk, ly_ra, Option.toList, List.cons_append, List.nil_append, q_ski, q_skr, q_sku, if_true, if_false, m_in, m_isLate, m_f1, m_f3, q_b0, q_not, q_wl0, q_wl1, q_wl48, q_wu1, q_wu2, q_wu3, q_wu5, q_wu6, q_wu7, q_wu8, q_wu15, q_wu30, q_wu40, q_wu57, q_wu60, q_wu69, q_wu99, q_wu1584, fa_wide_le]
  by_cases h1 : 1 ≤ n ∧ n ≤ 60
  · rw [if_pos h1] at h
    obtain ⟨j, hj, rfl⟩ := q_rng (n := 60) rfl ⟨Int32.le_trans (by decide) h1.1, h1.2⟩
    rw [nI_clamp (by omega)] at h
    simp only [h1, and_self, if_true]
    by_cases h2 : 9999 < μ 84 1 + nI j
    · rw [if_pos h2] at h
      simp only [h2, if_true]
      exact h
    · rw [if_neg h2] at h
      simp only [h2, if_false]
      refine m_yearsGo hok hy (by omega) (fun μ1 k1 k2 => ?_)
      simp only [u198_0, u198_1, u198_2, u198_3, u198_6, u198_9, u198_12, u198_13, u198_14, u198_17, u198_18, u198_19, u198_20, u198_23, u198_26, u198_27, u198_28, u198_31, u198_32, u198_33, u198_34, u198_37, u198_38, u198_41, ly_kd, ly_al, ly_fv0, ly_fv1, ly_fv2, ly_fv3, ly_fv4, ly_fk, ly_ra, Option.toList, List.cons_append, List.nil_append, q_ski, q_skr, q_sku, if_true, if_false, m_allWet]
      have := h μ1 k1 k2
      rw [k2]; exact this
  · rw [if_neg h1] at h
    simp only [h1, if_false]
    exact h
theorem m_wetBehind {d : Nat} {R : gR} {μ : gM} {n y : Nat} (hok : q_ok (μ 84)) (hy : μ 84 1 = nI y) (hn : y + n ≤ 20000) (h : ∀ μ', q_fr μ μ' → μ' 84 = va_cpy (μ 86) (q_yrs (μ 84) n) 0 0 75 → R (some (.int (q_sum (fun c => q_yrs (μ 84) n (5 + 1 * c)) 16))) μ') : gc_S (d + 8) 208 [.ref 83, .int (nI n)] μ R := by
  simp only [s208, u208_0, u208_1, u208_2, u208_5, u208_6, u208_9, u208_10, u208_11, u208_14, u208_15, ly_kd, ly_al, ly_fv0, ly_fv1, ly_fv2, ly_fv3, ly_fv4, ly_fk, ly_ra, Option.toList, List.cons_append, List.nil_append, q_ski, q_skr, q_sku, if_true, if_false]
  refine m_yearsGo hok hy hn (fun μ1 k1 k2 => ?_)
  simp only [u208_0, u208_1, u208_2, u208_5, u208_6, u208_9, u208_10, u208_11, u208_14, u208_15, ly_kd, ly_al, ly_fv0, ly_fv1, ly_fv2, ly_fv3, ly_fv4, ly_fk, ly_ra, Option.toList, List.cons_append, List.nil_append, q_ski, q_skr, q_sku, if_true, if_false, m_allWet, m_putBack]
  rw [k2]
  refine h _ (fun o h1 h2 h3 h4 => ?_) ?_
  · rw [gc_cp_ne h1]; exact k1 o h1 h2 h3 h4
  · rw [gc_cp_eq, k1 86 (by decide) (by decide) (by decide) (by decide), k2]
theorem m_then {d : Nat} {R : gR} {μ : gM} {n c : Int32} {y : Nat} (hok : q_ok (μ 84)) (hy : μ 84 1 = nI y) (hy2 : y ≤ 10000) (h : if (0 ≤ n ∧ n ≤ 60) ∧ 0 ≤ c ∧ c ≤ 15 then ∀ μ', q_f2 μ μ' → R (some (.int (q_yrs (μ 84) n.toNatClampNeg (5 + c.toNatClampNeg)))) μ' else R (some (.int (-1000000001))) (gc_up μ 87 1 (μ 87 1 + 1))) : gc_S (d + 8) 203 [.ref 83, .int n, .int c] μ R := by
  simp only [s203, u203_0, u203_1, u203_4, u203_7, u203_8, u203_11, u203_14, u203_15, u203_16, u203_19, u203_20, u203_21, u203_24, u203_25, u203_26, u203_29, u203_30, u203_33, u203_34, u203_35, u203_36, u203_37, u203_38, u203_39, u203_42, u203_43, ly_kd, ly_al, ly_fv0, ly_fv1, ly_fv2, ly_fv3, ly_fv4, ly_fk, ly_ra, Option.toList, List.cons_append, List.nil_append, q_ski, q_skr, q_sku, if_true, if_false, m_isAhead, m_isCell, m_f1, m_keepAside, q_b0, q_not]
  by_cases h1 : 0 ≤ n ∧ n ≤ 60
  · by_cases h2 : 0 ≤ c ∧ c ≤ 15
    · rw [if_pos ⟨h1, h2⟩] at h
      obtain ⟨j, hj, rfl⟩ := q_rng (n := 60) rfl h1
      obtain ⟨i, hi, rfl⟩ := q_rng (n := 15) rfl h2
      rw [nI_clamp (by omega), nI_clamp (by omega)] at h
      simp only [h1, h2, and_self, if_true]
      refine m_yearsGo (by rw [q_as]; exact hok) (by rw [q_as]; exact hy) (by omega) (fun μ1 k1 k2 => ?_)
      rw [q_as] at k2
      obtain ⟨v1, v2, e1, e2⟩ := q_wt (c := i) (by omega)
      simp only [u203_0, u203_1, u203_4, u203_7, u203_8, u203_11, u203_14, u203_15, u203_16, u203_19, u203_20, u203_21, u203_24, u203_25, u203_26, u203_29, u203_30, u203_33, u203_34, u203_35, u203_36, u203_37, u203_38, u203_39, u203_42, u203_43, ly_kd, ly_al, ly_fv0, ly_fv1, ly_fv2, ly_fv3, ly_fv4, ly_fk, ly_ra, Option.toList, List.cons_append, List.nil_append, q_ski, q_skr, q_sku, if_true, if_false, v1, e1, true_and, m_putBack]
      rw [k2]
      exact h _ (q_back k1 (fun j' hj' => by rw [k2]; exact q_yrs_hi hok hy hj' j (by omega)))
    · rw [if_neg (fun q => h2 q.2)] at h
      simp only [h1, h2, and_self, if_true, if_false]
      exact h
  · rw [if_neg (fun q => h1 q.1)] at h
    simp only [h1, if_false]
    exact h
