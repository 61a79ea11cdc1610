/-! a cloth at k holds what D says -/
def q_R (k : Nat) (D : Nat → Int32) (μ : gM) : Prop :=
  (∀ c, c < 16 → μ (k + 1) c = D (5 + c)) ∧ (∀ p, p < 6 → μ (k + 3) p = D (37 + p)) ∧ (∀ i, i < 8 → μ (k + 4) i = D (43 + 4 * i)) ∧ (∀ i, i < 8 → μ (k + 5) i = D (44 + 4 * i)) ∧ (∀ i, i < 8 → μ (k + 6) i = D (45 + 4 * i)) ∧ (∀ i, i < 8 → μ (k + 7) i = D (46 + 4 * i))
  ∧ μ k 11 = q_set (fun c => decide (D (21 + c) = 1)) 16 ∧ μ k 12 = D 1 ∧ μ k 13 = D 0
/-- the laws of now hold the texts of D -/
def q_L (D : Nat → Int32) (μ : gM) : Prop := ∀ u, u < 2 → μ (11 + 4 * u + 1) 1 = D (75 + u) ∧ ∀ n, n ≤ 50 → D (75 + u) = nI n → ∀ j, j < n → μ (11 + 4 * u + 2) j = q_enc (q_code D u j)
/-- nothing but the cloth at k and the stacks of the laws has changed -/
def q_g (k : Nat) (μ μ' : gM) : Prop := ∀ o, (o < k ∨ k + 7 < o) → o ≠ 14 → o ≠ 18 → μ' o = μ o
theorem q_g.rf {k : Nat} {μ : gM} : q_g k μ μ := fun _ _ _ _ => rfl
theorem q_g.tr {k : Nat} {μ μ1 μ2 : gM} (h : q_g k μ μ1) (h2 : q_g k μ1 μ2) : q_g k μ μ2 := fun o a b c => (h2 o a b c).trans (h o a b c)
theorem q_R_w {k : Nat} {D : Nat → Int32} {μ : gM} (h : q_R k D μ) {c : Nat} (hc : c < 16) {x : Int32} : q_R k (upd D (5 + c) x) (gc_up μ (k + 1) c x) := by
  obtain ⟨h1, h2, h3, h4, h5, h6, h7, h8, h9⟩ := h
  have o : ∀ j, j ≠ 5 + c → upd D (5 + c) x j = D j := fun j hj => if_neg hj
  have m : ∀ o, o ≠ k + 1 → gc_up μ (k + 1) c x o = μ o := fun o ho => gc_up_ne ho
  refine ⟨fun j hj => ?_, fun j hj => ?_, fun j hj => ?_, fun j hj => ?_, fun j hj => ?_, fun j hj => ?_, ?_, ?_, ?_⟩
  · by_cases e : j = c
    · subst e; rw [q_up_same]; exact (if_pos rfl).symm
    · rw [q_up_j e, o _ (by omega)]; exact h1 j hj
  · rw [m _ (by omega), o _ (by omega)]; exact h2 j hj
  · rw [m _ (by omega), o _ (by omega)]; exact h3 j hj
  · rw [m _ (by omega), o _ (by omega)]; exact h4 j hj
  · rw [m _ (by omega), o _ (by omega)]; exact h5 j hj
  · rw [m _ (by omega), o _ (by omega)]; exact h6 j hj
  · rw [m _ (by omega), h7]; exact q_set_cong (fun j hj => by rw [o _ (by omega)])
  · rw [m _ (by omega), o _ (by omega)]; exact h8
  · rw [m _ (by omega), o _ (by omega)]; exact h9
theorem q_R_p {k : Nat} {D : Nat → Int32} {μ : gM} (h : q_R k D μ) {c : Nat} (hc : c < 6) {x : Int32} : q_R k (upd D (37 + c) x) (gc_up μ (k + 3) c x) := by
  obtain ⟨h1, h2, h3, h4, h5, h6, h7, h8, h9⟩ := h
  have o : ∀ j, j ≠ 37 + c → upd D (37 + c) x j = D j := fun j hj => if_neg hj
  have m : ∀ o, o ≠ k + 3 → gc_up μ (k + 3) c x o = μ o := fun o ho => gc_up_ne ho
  refine ⟨fun j hj => ?_, fun j hj => ?_, fun j hj => ?_, fun j hj => ?_, fun j hj => ?_, fun j hj => ?_, ?_, ?_, ?_⟩
  · rw [m _ (by omega), o _ (by omega)]; exact h1 j hj
  · by_cases e : j = c
    · subst e; rw [q_up_same]; exact (if_pos rfl).symm
    · rw [q_up_j e, o _ (by omega)]; exact h2 j hj
  · rw [m _ (by omega), o _ (by omega)]; exact h3 j hj
  · rw [m _ (by omega), o _ (by omega)]; exact h4 j hj
  · rw [m _ (by omega), o _ (by omega)]; exact h5 j hj
  · rw [m _ (by omega), o _ (by omega)]; exact h6 j hj
  · rw [m _ (by omega), h7]; exact q_set_cong (fun j hj => by rw [o _ (by omega)])
  · rw [m _ (by omega), o _ (by omega)]; exact h8
  · rw [m _ (by omega), o _ (by omega)]; exact h9
theorem q_R_k {k : Nat} {D : Nat → Int32} {μ : gM} (h : q_R k D μ) {c : Nat} (hc : c < 8) {x : Int32} : q_R k (upd D (43 + 4 * c) x) (gc_up μ (k + 4) c x) := by
  obtain ⟨h1, h2, h3, h4, h5, h6, h7, h8, h9⟩ := h
  have o : ∀ j, j ≠ 43 + 4 * c → upd D (43 + 4 * c) x j = D j := fun j hj => if_neg hj
  have m : ∀ o, o ≠ k + 4 → gc_up μ (k + 4) c x o = μ o := fun o ho => gc_up_ne ho
  refine ⟨fun j hj => ?_, fun j hj => ?_, fun j hj => ?_, fun j hj => ?_, fun j hj => ?_, fun j hj => ?_, ?_, ?_, ?_⟩
  · rw [m _ (by omega), o _ (by omega)]; exact h1 j hj
  · rw [m _ (by omega), o _ (by omega)]; exact h2 j hj
  · by_cases e : j = c
    · subst e; rw [q_up_same]; exact (if_pos rfl).symm
    · rw [q_up_j e, o _ (by omega)]; exact h3 j hj
  · rw [m _ (by omega), o _ (by omega)]; exact h4 j hj
  · rw [m _ (by omega), o _ (by omega)]; exact h5 j hj
  · rw [m _ (by omega), o _ (by omega)]; exact h6 j hj
  · rw [m _ (by omega), h7]; exact q_set_cong (fun j hj => by rw [o _ (by omega)])
  · rw [m _ (by omega), o _ (by omega)]; exact h8
  · rw [m _ (by omega), o _ (by omega)]; exact h9
theorem q_R_m {k : Nat} {D : Nat → Int32} {μ : gM} (h : q_R k D μ) {c : Nat} (hc : c < 8) {x : Int32} : q_R k (upd D (44 + 4 * c) x) (gc_up μ (k + 5) c x) := by
  obtain ⟨h1, h2, h3, h4, h5, h6, h7, h8, h9⟩ := h
  have o : ∀ j, j ≠ 44 + 4 * c → upd D (44 + 4 * c) x j = D j := fun j hj => if_neg hj
  have m : ∀ o, o ≠ k + 5 → gc_up μ (k + 5) c x o = μ o := fun o ho => gc_up_ne ho
  refine ⟨fun j hj => ?_, fun j hj => ?_, fun j hj => ?_, fun j hj => ?_, fun j hj => ?_, fun j hj => ?_, ?_, ?_, ?_⟩
  · rw [m _ (by omega), o _ (by omega)]; exact h1 j hj
  · rw [m _ (by omega), o _ (by omega)]; exact h2 j hj
  · rw [m _ (by omega), o _ (by omega)]; exact h3 j hj
  · by_cases e : j = c
    · subst e; rw [q_up_same]; exact (if_pos rfl).symm
    · rw [q_up_j e, o _ (by omega)]; exact h4 j hj
  · rw [m _ (by omega), o _ (by omega)]; exact h5 j hj
  · rw [m _ (by omega), o _ (by omega)]; exact h6 j hj
  · rw [m _ (by omega), h7]; exact q_set_cong (fun j hj => by rw [o _ (by omega)])
  · rw [m _ (by omega), o _ (by omega)]; exact h8
  · rw [m _ (by omega), o _ (by omega)]; exact h9
theorem q_R_s {k : Nat} {D : Nat → Int32} {μ : gM} (h : q_R k D μ) {c : Nat} (hc : c < 8) {x : Int32} : q_R k (upd D (45 + 4 * c) x) (gc_up μ (k + 6) c x) := by
  obtain ⟨h1, h2, h3, h4, h5, h6, h7, h8, h9⟩ := h
  have o : ∀ j, j ≠ 45 + 4 * c → upd D (45 + 4 * c) x j = D j := fun j hj => if_neg hj
  have m : ∀ o, o ≠ k + 6 → gc_up μ (k + 6) c x o = μ o := fun o ho => gc_up_ne ho
  refine ⟨fun j hj => ?_, fun j hj => ?_, fun j hj => ?_, fun j hj => ?_, fun j hj => ?_, fun j hj => ?_, ?_, ?_, ?_⟩
  · rw [m _ (by omega), o _ (by omega)]; exact h1 j hj
  · rw [m _ (by omega), o _ (by omega)]; exact h2 j hj
  · rw [m _ (by omega), o _ (by omega)]; exact h3 j hj
  · rw [m _ (by omega), o _ (by omega)]; exact h4 j hj
  · by_cases e : j = c
    · subst e; rw [q_up_same]; exact (if_pos rfl).symm
    · rw [q_up_j e, o _ (by omega)]; exact h5 j hj
  · rw [m _ (by omega), o _ (by omega)]; exact h6 j hj
  · rw [m _ (by omega), h7]; exact q_set_cong (fun j hj => by rw [o _ (by omega)])
  · rw [m _ (by omega), o _ (by omega)]; exact h8
  · rw [m _ (by omega), o _ (by omega)]; exact h9
theorem q_R_a {k : Nat} {D : Nat → Int32} {μ : gM} (h : q_R k D μ) {c : Nat} (hc : c < 8) {x : Int32} : q_R k (upd D (46 + 4 * c) x) (gc_up μ (k + 7) c x) := by
  obtain ⟨h1, h2, h3, h4, h5, h6, h7, h8, h9⟩ := h
  have o : ∀ j, j ≠ 46 + 4 * c → upd D (46 + 4 * c) x j = D j := fun j hj => if_neg hj
  have m : ∀ o, o ≠ k + 7 → gc_up μ (k + 7) c x o = μ o := fun o ho => gc_up_ne ho
  refine ⟨fun j hj => ?_, fun j hj => ?_, fun j hj => ?_, fun j hj => ?_, fun j hj => ?_, fun j hj => ?_, ?_, ?_, ?_⟩
  · rw [m _ (by omega), o _ (by omega)]; exact h1 j hj
  · rw [m _ (by omega), o _ (by omega)]; exact h2 j hj
  · rw [m _ (by omega), o _ (by omega)]; exact h3 j hj
  · rw [m _ (by omega), o _ (by omega)]; exact h4 j hj
  · rw [m _ (by omega), o _ (by omega)]; exact h5 j hj
  · by_cases e : j = c
    · subst e; rw [q_up_same]; exact (if_pos rfl).symm
    · rw [q_up_j e, o _ (by omega)]; exact h6 j hj
  · rw [m _ (by omega), h7]; exact q_set_cong (fun j hj => by rw [o _ (by omega)])
  · rw [m _ (by omega), o _ (by omega)]; exact h8
  · rw [m _ (by omega), o _ (by omega)]; exact h9
theorem q_R_y {k : Nat} {D : Nat → Int32} {μ : gM} (h : q_R k D μ) {x : Int32} : q_R k (upd D 1 x) (gc_up μ k 12 x) := by
  obtain ⟨h1, h2, h3, h4, h5, h6, h7, h8, h9⟩ := h
  have o : ∀ j, j ≠ 1 → upd D 1 x j = D j := fun j hj => if_neg hj
  have m : ∀ o, o ≠ k → gc_up μ k 12 x o = μ o := fun o ho => gc_up_ne ho
  refine ⟨fun j hj => ?_, fun j hj => ?_, fun j hj => ?_, fun j hj => ?_, fun j hj => ?_, fun j hj => ?_, ?_, ?_, ?_⟩
  · rw [m _ (by omega), o _ (by omega)]; exact h1 j hj
  · rw [m _ (by omega), o _ (by omega)]; exact h2 j hj
  · rw [m _ (by omega), o _ (by omega)]; exact h3 j hj
  · rw [m _ (by omega), o _ (by omega)]; exact h4 j hj
  · rw [m _ (by omega), o _ (by omega)]; exact h5 j hj
  · rw [m _ (by omega), o _ (by omega)]; exact h6 j hj
  · rw [q_up_j (by omega), h7]; exact q_set_cong (fun j hj => by rw [o _ (by omega)])
  · rw [q_up_same]; exact (if_pos rfl).symm
  · rw [q_up_j (by omega), o _ (by omega)]; exact h9
theorem q_R_n {k : Nat} {D : Nat → Int32} {μ : gM} (h : q_R k D μ) {x : Int32} : q_R k (upd D 0 x) (gc_up μ k 13 x) := by
  obtain ⟨h1, h2, h3, h4, h5, h6, h7, h8, h9⟩ := h
  have o : ∀ j, j ≠ 0 → upd D 0 x j = D j := fun j hj => if_neg hj
  have m : ∀ o, o ≠ k → gc_up μ k 13 x o = μ o := fun o ho => gc_up_ne ho
  refine ⟨fun j hj => ?_, fun j hj => ?_, fun j hj => ?_, fun j hj => ?_, fun j hj => ?_, fun j hj => ?_, ?_, ?_, ?_⟩
  · rw [m _ (by omega), o _ (by omega)]; exact h1 j hj
  · rw [m _ (by omega), o _ (by omega)]; exact h2 j hj
  · rw [m _ (by omega), o _ (by omega)]; exact h3 j hj
  · rw [m _ (by omega), o _ (by omega)]; exact h4 j hj
  · rw [m _ (by omega), o _ (by omega)]; exact h5 j hj
  · rw [m _ (by omega), o _ (by omega)]; exact h6 j hj
  · rw [q_up_j (by omega), h7]; exact q_set_cong (fun j hj => by rw [o _ (by omega)])
  · rw [q_up_j (by omega), o _ (by omega)]; exact h8
  · rw [q_up_same]; exact (if_pos rfl).symm
theorem q_R_mem {k : Nat} {D : Nat → Int32} {μ μ' : gM} (h : q_R k D μ) (e : ∀ o, k ≤ o → o ≤ k + 7 → o ≠ k + 2 → μ' o = μ o) : q_R k D μ' := by
  obtain ⟨h1, h2, h3, h4, h5, h6, h7, h8, h9⟩ := h
  unfold q_R
  rw [e (k + 1) (by omega) (by omega) (by omega), e (k + 3) (by omega) (by omega) (by omega), e (k + 4) (by omega) (by omega) (by omega), e (k + 5) (by omega) (by omega) (by omega), e (k + 6) (by omega) (by omega) (by omega), e (k + 7) (by omega) (by omega) (by omega), e k (by omega) (by omega) (by omega)]
  exact ⟨h1, h2, h3, h4, h5, h6, h7, h8, h9⟩
theorem q_R_D {k : Nat} {D D' : Nat → Int32} {μ : gM} (h : q_R k D μ) (e : ∀ j, j < 75 → j ≠ 2 → j ≠ 3 → j ≠ 4 → D' j = D j) : q_R k D' μ := by
  obtain ⟨h1, h2, h3, h4, h5, h6, h7, h8, h9⟩ := h
  refine ⟨fun j hj => ?_, fun j hj => ?_, fun j hj => ?_, fun j hj => ?_, fun j hj => ?_, fun j hj => ?_, ?_, ?_, ?_⟩
  · rw [e _ (by omega) (by omega) (by omega) (by omega)]; exact h1 j hj
  · rw [e _ (by omega) (by omega) (by omega) (by omega)]; exact h2 j hj
  · rw [e _ (by omega) (by omega) (by omega) (by omega)]; exact h3 j hj
  · rw [e _ (by omega) (by omega) (by omega) (by omega)]; exact h4 j hj
  · rw [e _ (by omega) (by omega) (by omega) (by omega)]; exact h5 j hj
  · rw [e _ (by omega) (by omega) (by omega) (by omega)]; exact h6 j hj
  · rw [h7]; exact q_set_cong (fun j hj => by rw [e _ (by omega) (by omega) (by omega) (by omega)])
  · rw [e _ (by omega) (by omega) (by omega) (by omega)]; exact h8
  · rw [e _ (by omega) (by omega) (by omega) (by omega)]; exact h9
theorem q_L_mem {D : Nat → Int32} {μ μ' : gM} (h : q_L D μ) (e : ∀ o, o = 12 ∨ o = 13 ∨ o = 16 ∨ o = 17 → μ' o = μ o) : q_L D μ' := by
  intro u hu
  have h1 := h u hu
  rcases (show u = 0 ∨ u = 1 by omega) with rfl | rfl
  · rw [e (11 + 4 * 0 + 1) (by omega), e (11 + 4 * 0 + 2) (by omega)]; exact h1
  · rw [e (11 + 4 * 1 + 1) (by omega), e (11 + 4 * 1 + 2) (by omega)]; exact h1
theorem q_L_D {D D' : Nat → Int32} {μ : gM} (h : q_L D μ) (e : ∀ j, 75 ≤ j → D' j = D j) : q_L D' μ := by
  intro u hu
  have h1 := h u hu
  have : q_code D' u = q_code D u := funext fun j => e _ (by omega)
  rw [e _ (by omega), this]
  exact h1
theorem q_L_g {D : Nat → Int32} {k : Nat} {μ μ' : gM} (h : q_L D μ) (hk : 18 < k) (e : q_g k μ μ') : q_L D μ' := q_L_mem h (fun o ho => e o (by omega) (by omega) (by omega))
theorem t_given {d : Nat} {R : gR} {μ : gM} {k u : Nat} {U a b c : Int32} {D : Nat → Int32} (K : q_K k 9) (hu : u < 2) (hU : U = nI u) (hwf : q_wfD D) (hL : q_L D μ) (h : ∀ μ', (∀ o, o ≠ 14 → o ≠ 18 → μ' o = μ o) → R (some (.int (q_tg D u a b c))) μ') : gc_S (d + 3) 13 [.ref k, .int U, .int a, .int b, .int c] μ R := by
  obtain ⟨n, hn, hwfn⟩ := hwf u hu
  obtain ⟨hL1, hL2⟩ := hL u hu
  have O := q_Wu hu
  have O' := O
  unfold q_W at O
  unfold q_K at K
  rw [hn] at hL1
  have h50 := hwfn.1
  have vu : vp_in (nI u) 2 := vp_in_nI hu (by decide)
  have cu : (nI u).toNatClampNeg = u := nI_clamp (by omega)
  subst hU
  simp only [s13, u13_0, u13_1, u13_4, u13_5, u13_6, u13_8, u13_10, u13_13, u13_16, u13_19, u13_21, u13_22, u13_23, u13_25, u13_28, u13_31, u13_32, u13_33, u13_36, u13_37, u13_40, u13_43, u13_44, ly_kd, ly_al, ly_fv0, ly_fv1, ly_fv2, ly_fv3, ly_fv4, ly_fk, ly_ra, Option.toList, List.cons_append, List.nil_append, q_ski, q_skr, q_sku, if_true, if_false, K, true_and]
  rw [u13_5 (q := 23) rfl rfl]
  simp only [u13_0, u13_1, u13_4, u13_5, u13_6, u13_8, u13_10, u13_13, u13_16, u13_19, u13_21, u13_22, u13_23, u13_25, u13_28, u13_31, u13_32, u13_33, u13_36, u13_37, u13_40, u13_43, u13_44, ly_kd, ly_al, ly_fv0, ly_fv1, ly_fv2, ly_fv3, ly_fv4, ly_fk, ly_ra, Option.toList, List.cons_append, List.nil_append, q_ski, q_skr, q_sku, if_true, if_false, vu, cu, O, true_and, hL1]
  rcases Nat.eq_zero_or_pos n with rfl | hpos
  · have hz : q_tg D u a b c = q_hd (if u = 0 then a else 3) := by
      unfold q_tg; rw [hn, if_neg (by decide)]
    have h' := h μ (fun _ _ _ => rfl)
    rw [hz] at h'
    rcases (show u = 0 ∨ u = 1 by omega) with rfl | rfl
    · simp only [u13_0, u13_1, u13_4, u13_5, u13_6, u13_8, u13_10, u13_13, u13_16, u13_19, u13_21, u13_22, u13_23, u13_25, u13_28, u13_31, u13_32, u13_33, u13_36, u13_37, u13_40, u13_43, u13_44, ly_kd, ly_al, ly_fv0, ly_fv1, ly_fv2, ly_fv3, ly_fv4, ly_fk, ly_ra, Option.toList, List.cons_append, List.nil_append, q_ski, q_skr, q_sku, if_true, if_false, show nI 0 ≤ 0 by decide, show nI 0 = 0 from rfl, t_held]
      exact h'
    · simp only [u13_0, u13_1, u13_4, u13_5, u13_6, u13_8, u13_10, u13_13, u13_16, u13_19, u13_21, u13_22, u13_23, u13_25, u13_28, u13_31, u13_32, u13_33, u13_36, u13_37, u13_40, u13_43, u13_44, ly_kd, ly_al, ly_fv0, ly_fv1, ly_fv2, ly_fv3, ly_fv4, ly_fk, ly_ra, Option.toList, List.cons_append, List.nil_append, q_ski, q_skr, q_sku, if_true, if_false, show nI 0 ≤ 0 by decide, show ¬ nI 1 = 0 by decide]
      exact h'
  · have hnp : ¬ nI n ≤ 0 := nI_nle hpos (by omega)
    simp only [hnp, if_false, t_workedOut O' hL1 hpos hwfn (fun j hj => hL2 n h50 hn j hj), u13_0, u13_1, u13_4, u13_5, u13_6, u13_8, u13_10, u13_13, u13_16, u13_19, u13_21, u13_22, u13_23, u13_25, u13_28, u13_31, u13_32, u13_33, u13_36, u13_37, u13_40, u13_43, u13_44, Option.toList, List.cons_append, List.nil_append, q_ski, q_skr, q_sku, if_true, if_false, t_held]
    have e : q_tg D u a b c = q_hd ((q_ev (q_n3 a b c) (q_code D u) (μ (11 + 4 * u + 3)) n).2 0) := by
      unfold q_tg
      rw [hn, if_pos (Int32.not_le.mp hnp), nI_clamp (by omega)]
      congr 1
      exact (q_ev_ind n hwfn.2.1 0 (by rw [hwfn.2.2 hpos]; exact Nat.one_pos)).symm ▸ rfl
    rw [← e]
    exact h _ (fun o h1 h2 => q_ob_n (by omega))
