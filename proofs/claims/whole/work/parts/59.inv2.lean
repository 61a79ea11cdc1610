theorem q_CL_of {D D' : Nat → Int32} {μ μ' : gM} (h : q_CL 31 11 D μ) (ok : q_ok D') (hy : ∃ y, D' 1 = nI y ∧ y ≤ 10000) (hR : q_R 31 D' μ') (hz : μ' 31 14 = D' 2) (e3 : D' 3 = D 3) (e4 : D' 4 = D 4) (e75 : ∀ j, 75 ≤ j → D' j = D j) (e : ∀ o, o = 12 ∨ o = 13 ∨ o = 16 ∨ o = 17 ∨ (39 ≤ o ∧ o ≤ 42) → μ' o = μ o) : q_CL 31 11 D' μ' := by
  obtain ⟨h1, h2, h3, h4, h5, h6, h7⟩ := h
  refine ⟨ok, hy, hR, hz, ?_, ?_, ?_⟩
  · have h5' : q_Ll 11 D μ' := q_Ll_mem h5 (fun o ho => e o (by omega))
    intro u hu
    have h1 := h5' u hu
    have : q_code D' u = q_code D u := funext fun j => e75 _ (by omega)
    rw [e75 _ (by omega), this]
    exact h1
  · obtain ⟨t, a, b, c, d⟩ := h6
    refine ⟨t, by rw [e3]; exact a, b, by rw [e _ (by omega)]; exact c, fun j hj => ?_⟩
    rw [e _ (by omega), e75 _ (by omega)]
    exact d j hj
  · obtain ⟨t, a, b, c, d⟩ := h7
    refine ⟨t, by rw [e4]; exact a, b, by rw [e _ (by omega)]; exact c, fun j hj => ?_⟩
    rw [e _ (by omega), e75 _ (by omega)]
    exact d j hj
theorem q_I_now {μ μ' : gM} (h : q_I μ) (e : ∀ o, ¬ q_scr o → (o < 31 ∨ 42 < o) → o ≠ 84 → o ≠ 83 → o ≠ 12 → o ≠ 13 → o ≠ 16 → o ≠ 17 → μ' o = μ o) (e3 : μ' 83 3 = μ 83 3) (e22 : μ' 83 22 = μ 83 22) (hc : q_CL 31 11 (μ' 84) μ') : q_I μ' := by
  obtain ⟨h1, h2, h3, h4, h5⟩ := h
  have n : ∀ o, ¬ (o = 14 ∨ o = 18 ∨ o = 22 ∨ (26 ≤ o ∧ o ≤ 30) ∨ o = 33 ∨ (43 ≤ o ∧ o ≤ 54) ∨ o = 57 ∨ o = 76 ∨ (80 ≤ o ∧ o ≤ 82) ∨ o = 86 ∨ (88 ≤ o ∧ o ≤ 96) ∨ o = 101 ∨ o = 83 ∨ o = 84 ∨ (31 ≤ o ∧ o ≤ 42) ∨ o = 12 ∨ o = 13 ∨ o = 16 ∨ o = 17) → μ' o = μ o := fun o ho => e o (by unfold q_scr; omega) (by omega) (by omega) (by omega) (by omega) (by omega) (by omega) (by omega)
  exact ⟨hc, q_im_mem h2 (by rw [n 0 (by omega)]) e3 (n _ (by omega)) (fun o ho => n o (by omega)), q_sh_mem h3 (fun o ho => n o (by omega)), q_tr_mem h4 (n _ (by omega)) e22 (n _ (by omega)) (n _ (by omega)), q_rf_mem h5 (n _ (by omega)) (n _ (by omega))⟩
theorem q_yrs_at {D : Nat → Int32} {y : Nat} (hok : q_ok D) (hy : D 1 = nI y) {j : Nat} (h1 : j < 5 ∨ 21 ≤ j) (h2 : ∀ i, i < 8 → j ≠ 45 + 4 * i) (h3 : j ≠ 1) : ∀ n, y + n ≤ 20000 → q_yrs D n j = D j
  | 0, _ => rfl
  | n + 1, h => by
    obtain ⟨k1, k2⟩ := q_ok_yrs hok hy n (by omega)
    show q_yr (q_yrs D n) j = D j
    rw [q_yr_at k1 h1 h2, if_neg h3]
    exact q_yrs_at hok hy h1 h2 h3 n (by omega)
theorem q_ones {p : Nat → Bool} : ∀ n, n ≤ 16 → q_sum (fun k => (q_set p 16 >>> (nI k &&& 31)) &&& 1) n = nI (q_ct p n)
  | 0, _ => rfl
  | n + 1, h => by
    show q_sum (fun k => (q_set p 16 >>> (nI k &&& 31)) &&& 1) n + ((q_set p 16 >>> (nI n &&& 31)) &&& 1) = nI (q_ct p n + (if p n = true then 1 else 0))
    rw [q_ones n (by omega), q_bit1 (by omega), q_set_bt 16 (by omega) n (by omega)]
    have : decide (n < 16) = true := decide_eq_true (by omega)
    rw [this, Bool.true_and]
    by_cases hp : p n = true
    · rw [if_pos hp, if_pos hp, nI_1]
    · rw [if_neg hp, if_neg hp, Int32.add_zero, Nat.add_zero]
theorem q_w0 {D : Nat → Int32} (hok : q_ok D) {μ : gM} {k : Nat} (hR : q_R k D μ) : q_set (fun c => decide (0 < μ (k + 1) c)) 16 = q_set (fun c => decide (0 < D (5 + c))) 16 := q_set_cong (fun c hc => by rw [hR.1 c hc])
