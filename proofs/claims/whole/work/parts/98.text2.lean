/-! texts that are read: the class -/
def q_sta (A : Nat → Int32) (t u : Nat) (μ : gM) : Prop := μ 27 2 = nI 39 ∧ μ 27 3 = nI (103 + u) ∧ μ 39 1 = nI t ∧ ∀ j, j < t → μ 40 j = A j
def q_cs (A : Nat → Int32) (t u pos n : Nat) (C : Nat → Int32) (μ : gM) : Prop := q_sta A t u μ ∧ μ 27 4 = nI pos ∧ μ 28 1 = nI n ∧ ∀ j, j < n → μ 29 j = q_enc (C j)
def q_cf (μ μ' : gM) : Prop := (∀ o, o ≠ 27 → o ≠ 28 → o ≠ 29 → μ' o = μ o) ∧ ∀ j, j ≠ 4 → μ' 27 j = μ 27 j
theorem q_cf.rf {μ : gM} : q_cf μ μ := ⟨fun _ _ _ _ => rfl, fun _ _ => rfl⟩
theorem q_cf.tr {μ μ1 μ2 : gM} (h : q_cf μ μ1) (h2 : q_cf μ1 μ2) : q_cf μ μ2 := ⟨fun o a b c => (h2.1 o a b c).trans (h.1 o a b c), fun j hj => (h2.2 j hj).trans (h.2 j hj)⟩
theorem q_st_cf {A : Nat → Int32} {t u : Nat} {μ μ' : gM} (h : q_sta A t u μ) (f : q_cf μ μ') : q_sta A t u μ' := by
  obtain ⟨h1, h2, h3, h4⟩ := h
  refine ⟨by rw [f.2 2 (by omega)]; exact h1, by rw [f.2 3 (by omega)]; exact h2, ?_, fun j hj => ?_⟩
  · rw [f.1 39 (by omega) (by omega) (by omega)]; exact h3
  · rw [f.1 40 (by omega) (by omega) (by omega)]; exact h4 j hj
theorem q_n39 : (nI 39).toNatClampNeg = 39 := by decide
theorem t_ahead {d : Nat} {R : gR} {μ : gM} {A : Nat → Int32} {t u pos : Nat} (hA : q_by8s A t) (h50 : t ≤ 50) (hs : q_sta A t u μ) (hp : μ 27 4 = nI pos) (hpt : pos ≤ t) : gc_S (d + 1) 49 [.ref 27] μ R ↔ R (some (.int (A pos))) μ := by
  by_cases g : pos < t
  · simp only [s49, u49_0, u49_1, u49_4, u49_5, u49_8, u49_11, u49_14, u49_15, u49_18, u49_21, u49_22, u49_25, u49_26, u49_29, u49_30, ly_kd, ly_al, ly_fv0, ly_fv1, ly_fv2, ly_fv3, ly_fv4, ly_fk, ly_ra, Option.toList, List.cons_append, List.nil_append, q_ski, q_skr, q_sku, if_true, if_false, hs.1, q_n39, hp, hs.2.2.1, show ¬ nI t ≤ nI pos from nI_ge g (by omega), vp_in_nI (show pos < 50 by omega) (by decide), nI_clamp (show pos < 2 ^ 31 by omega), true_and, hs.2.2.2 pos g]
  · obtain rfl : pos = t := by omega
    simp only [s49, u49_0, u49_1, u49_4, u49_5, u49_8, u49_11, u49_14, u49_15, u49_18, u49_21, u49_22, u49_25, u49_26, u49_29, u49_30, ly_kd, ly_al, ly_fv0, ly_fv1, ly_fv2, ly_fv3, ly_fv4, ly_fk, ly_ra, Option.toList, List.cons_append, List.nil_append, q_ski, q_skr, q_sku, if_true, if_false, hs.1, q_n39, hp, hs.2.2.1, show nI pos ≤ nI pos from Int32.le_refl _, hA.2 pos (Nat.le_refl _)]
theorem t_pass {d : Nat} {R : gR} {μ : gM} {pos : Nat} (hp : μ 27 4 = nI pos) : gc_S (d + 1) 50 [.ref 27] μ R ↔ R none (gc_up μ 27 4 (nI (pos + 1))) := by
  simp only [s50, u50_0, u50_1, u50_2, u50_5, u50_6, u50_7, u50_10, ly_kd, ly_al, ly_fv0, ly_fv1, ly_fv2, ly_fv3, ly_fv4, ly_fk, ly_ra, Option.toList, List.cons_append, List.nil_append, q_ski, q_skr, q_sku, if_true, if_false, hp, nI_1]
theorem q_cf_pass {μ : gM} {x : Int32} : q_cf μ (gc_up μ 27 4 x) := ⟨fun o a _ _ => gc_up_ne a, fun j hj => q_up_j hj⟩
theorem q_cs_pass {A : Nat → Int32} {t u pos n : Nat} {C : Nat → Int32} {μ : gM} (h : q_cs A t u pos n C μ) : q_cs A t u (pos + 1) n C (gc_up μ 27 4 (nI (pos + 1))) := ⟨q_st_cf h.1 q_cf_pass, q_up_same, by rw [q_up_o (by omega)]; exact h.2.2.1, fun j hj => by rw [q_up_o (by omega)]; exact h.2.2.2 j hj⟩
theorem q_Rw28 : q_Rw 28 50 := q_rw12.2.2.2.2.1
theorem t_add28 {d : Nat} {R : gR} {μ : gM} {m : Nat} {v : Int32} (hm : m ≤ 50) (h1 : μ 28 1 = nI m) (h : ∀ μ', q_cf μ μ' → μ' 27 = μ 27 → (m < 50 → μ' 28 1 = nI (m + 1) ∧ (∀ j, j < m → μ' 29 j = μ 29 j) ∧ μ' 29 m = v) → (∃ m, m ≤ 50 ∧ μ' 28 1 = nI m) → R none μ') : gc_S (d + 1) 41 [.ref 28, .int v] μ R := by
  by_cases g : m < 50
  · rw [t_add q_Rw28 (by decide) h1 g]
    refine h _ ⟨fun o a b c => by rw [gc_up_ne b, gc_up_ne c], fun j hj => by rw [q_up_o (by omega), q_up_o (by omega)]⟩ (by rw [gc_up_ne (by omega), gc_up_ne (by omega)]) (fun _ => ⟨q_up_same, fun j hj => by rw [q_up_o (by omega), q_up_j (by omega)], by rw [q_up_o (by omega), q_up_same]⟩) ⟨m + 1, by omega, q_up_same⟩
  · obtain rfl : m = 50 := by omega
    rw [t_addF q_Rw28 h1]
    exact h μ q_cf.rf rfl (fun z => absurd z g) ⟨50, hm, h1⟩
/-- what a reading that ends with r has left -/
def q_po (μ : gM) (r : Bool × Nat × Nat × (Nat → Int32)) (R : gR) : Prop := ∀ μ', q_cf μ μ' → μ' 27 4 = nI r.2.1 → (r.1 = true → μ' 28 1 = nI r.2.2.1 ∧ ∀ j, j < r.2.2.1 → μ' 29 j = q_enc (r.2.2.2 j)) → (∃ m, m ≤ 50 ∧ μ' 28 1 = nI m) → R (some (.int (q_b (r.1 = true)))) μ'
theorem q_po_cf {μ μ1 : gM} {r : Bool × Nat × Nat × (Nat → Int32)} {R : gR} (h : q_po μ r R) (f : q_cf μ μ1) : q_po μ1 r R := fun μ' f1 a b c => h μ' (f.tr f1) a b c
def q_TC (A : Nat → Int32) (t u dep M op : Nat) (p : Nat → Nat → (Nat → Int32) → Bool × Nat × Nat × (Nat → Int32)) : Prop := ∀ (μ : gM) (R : gR) (pos n : Nat) (C : Nat → Int32), q_cs A t u pos n C μ → n ≤ pos → pos ≤ t → q_po μ (p pos n C) R → gc_S dep M [.ref 27, .int (nI op)] μ R
theorem q_cs_add {A : Nat → Int32} {t u pos n : Nat} {C : Nat → Int32} {μ μ' : gM} {z : Int32} (hst : q_sta A t u μ) (f : q_cf μ μ') (e4 : μ' 27 4 = nI pos) (a : μ' 28 1 = nI (n + 1) ∧ (∀ j, j < n → μ' 29 j = μ 29 j) ∧ μ' 29 n = q_enc z) (b : ∀ j, j < n → μ 29 j = q_enc (C j)) : q_cs A t u pos (n + 1) (upd C n z) μ' := by
  refine ⟨q_st_cf hst f, e4, a.1, fun j hj => ?_⟩
  by_cases e : j = n
  · subst e; rw [a.2.2]; congr 1; exact (if_pos rfl).symm
  · rw [a.2.1 j (by omega), b j (by omega)]; congr 1; exact (if_neg e).symm
theorem q_s0i {z : Int32} (g : q_s0 z = true) : z = 42 ∨ z = 47 ∨ z = 37 := by
  unfold q_s0 at g
  rw [Bool.or_eq_true, Bool.or_eq_true, decide_eq_true_eq, decide_eq_true_eq, decide_eq_true_eq] at g
  rcases g with (g | g) | g
  · exact .inl g
  · exact .inr (.inl g)
  · exact .inr (.inr g)
theorem q_s1i {z : Int32} (g : q_s1 z = true) : z = 43 ∨ z = 45 := by
  unfold q_s1 at g
  rw [Bool.or_eq_true, decide_eq_true_eq, decide_eq_true_eq] at g
  exact g
theorem q_s2i {z : Int32} (g : q_s2 z = true) : z = 60 ∨ z = 61 ∨ z = 62 := by
  unfold q_s2 at g
  rw [Bool.or_eq_true, Bool.or_eq_true, decide_eq_true_eq, decide_eq_true_eq, decide_eq_true_eq] at g
  rcases g with (g | g) | g
  · exact .inl g
  · exact .inr (.inl g)
  · exact .inr (.inr g)
theorem sb_m1s {f : Nat} : nI (f + 1) + -1 = nI f := by
  have := sb_m1 (p := f + 1) (by omega)
  rw [Nat.add_sub_cancel] at this
  exact this
set_option maxHeartbeats 1000000 in
theorem t_text {A : Nat → Int32} {t u d op : Nat} {p : Nat → Nat → (Nat → Int32) → Bool × Nat × Nat × (Nat → Int32)} (hA : q_by8s A t) (h50 : t ≤ 50) (hG : q_G t p) (hp : q_TC A t u (d + 1) 59 op p) : q_TC A t u (d + 2) 64 op (q_lvl A t q_s4 p) := by
  intro μ R pos n C hc hn ht h
  refine s64.mpr ?_
  have tn : nI t ≤ 0 ↔ t = 0 := (show nI t ≤ nI 0 ↔ t = 0 from ⟨fun z => by
    by_cases y : t = 0
    · exact y
    · exact absurd z (nI_ge (by omega) (by omega)), fun z => by rw [z]; exact Int32.le_refl _⟩)
  simp only [u64_0, u64_1, u64_2, u64_5, u64_6, u64_7, u64_10, u64_13, u64_15, u64_18, u64_19, u64_22, u64_23, u64_26, u64_28, u64_31, u64_32, u64_35, u64_36, u64_37, u64_40, u64_41, u64_42, u64_45, u64_47, u64_50, u64_53, u64_56, u64_57, ly_kd, ly_al, ly_fv0, ly_fv1, ly_fv2, ly_fv3, ly_fv4, ly_fk, ly_ra, Option.toList, List.cons_append, List.nil_append, q_ski, q_skr, q_sku, if_true, if_false]
  refine hp μ _ pos n C hc hn ht (fun μ1 f1 a1 c1 m1 => ?_)
  have st1 := q_st_cf hc.1 f1
  simp only [u64_0, u64_1, u64_2, u64_5, u64_6, u64_7, u64_10, u64_13, u64_15, u64_18, u64_19, u64_22, u64_23, u64_26, u64_28, u64_31, u64_32, u64_35, u64_36, u64_37, u64_40, u64_41, u64_42, u64_45, u64_47, u64_50, u64_53, u64_56, u64_57, ly_kd, ly_al, ly_fv0, ly_fv1, ly_fv2, ly_fv3, ly_fv4, ly_fk, ly_ra, Option.toList, List.cons_append, List.nil_append, q_ski, q_skr, q_sku, if_true, if_false, st1.1, q_n39, st1.2.2.1]
  have stop : ∀ (f : Nat) (μ2 : gM), R (some (.int 0)) μ2 → gc_W (gc_S (d+1)) cX2_readText 2 1 R 14 [.ref 27, .int (nI op), .int 0, .int (nI f)] [] μ2 := fun f μ2 h2 => by
    refine (u64_14).mpr ?_
    by_cases z : nI f ≤ 0
    · simp only [u64_0, u64_1, u64_2, u64_5, u64_6, u64_7, u64_10, u64_13, u64_15, u64_18, u64_19, u64_22, u64_23, u64_26, u64_28, u64_31, u64_32, u64_35, u64_36, u64_37, u64_40, u64_41, u64_42, u64_45, u64_47, u64_50, u64_53, u64_56, u64_57, z, if_true, true_or, true_and]; exact h2
    · simp only [u64_0, u64_1, u64_2, u64_5, u64_6, u64_7, u64_10, u64_13, u64_15, u64_18, u64_19, u64_22, u64_23, u64_26, u64_28, u64_31, u64_32, u64_35, u64_36, u64_37, u64_40, u64_41, u64_42, u64_45, u64_47, u64_50, u64_53, u64_56, u64_57, z, if_true, if_false, true_or, true_and]; exact h2
  have main : ∀ f p1 n1 C1 μ1, q_cf μ μ1 → q_cs A t u p1 n1 C1 μ1 → n1 ≤ p1 → p1 ≤ t → t ≤ f + p1 → f ≤ t → q_po μ (q_lop A q_s4 p f p1 n1 C1) R → gc_W (gc_S (d+1)) cX2_readText 2 1 R 14 [.ref 27, .int (nI op), .int 1, .int (nI f)] [] μ1 := by
    intro f
    induction f with
    | zero =>
      intro p1 n1 C1 μ1 f1 c1 hn1 hp1 hf hft h
      refine (u64_14).mpr ?_
      simp only [u64_0, u64_1, u64_2, u64_5, u64_6, u64_7, u64_10, u64_13, u64_15, u64_18, u64_19, u64_22, u64_23, u64_26, u64_28, u64_31, u64_32, u64_35, u64_36, u64_37, u64_40, u64_41, u64_42, u64_45, u64_47, u64_50, u64_53, u64_56, u64_57, show nI 0 ≤ 0 by decide, if_true, or_true, true_and]
      exact h μ1 f1 c1.2.1 (fun _ => c1.2.2) ⟨n1, by omega, c1.2.2.1⟩
    | succ f ih =>
      intro p1 n1 C1 μ1 f1 c1 hn1 hp1 hf hft h
      have e : q_lop A q_s4 p (f + 1) p1 n1 C1 = if q_s4 (A p1) = true then q_bd (p (p1 + 1) n1 C1) (fun p2 n2 C2 => q_lop A q_s4 p f p2 (n2 + 1) (upd C2 n2 (20000 + A p1))) else (true, p1, n1, C1) := rfl
      rw [e] at h
      have nz : ¬ nI (f + 1) ≤ 0 := (show ¬ nI (f + 1) ≤ nI 0 from nI_ge (by omega) (by omega))
      refine (u64_14).mpr ?_
      by_cases g : q_s4 (A p1) = true
      · rw [if_pos g] at h
        have gz : A p1 = 124 := by unfold q_s4 at g; exact of_decide_eq_true g
        have pt := q_in_t hA (by rw [gz]; decide)
        simp only [u64_0, u64_1, u64_2, u64_5, u64_6, u64_7, u64_10, u64_13, u64_15, u64_18, u64_19, u64_22, u64_23, u64_26, u64_28, u64_31, u64_32, u64_35, u64_36, u64_37, u64_40, u64_41, u64_42, u64_45, u64_47, u64_50, u64_53, u64_56, u64_57, ly_kd, ly_al, ly_fv0, ly_fv1, ly_fv2, ly_fv3, ly_fv4, ly_fk, ly_ra, Option.toList, List.cons_append, List.nil_append, q_ski, q_skr, q_sku, if_true, if_false, nz, show ¬ (1 : Int32) = 0 by decide, t_ahead hA h50 c1.1 c1.2.1 hp1, gz, t_pass c1.2.1]
        have gg := hG (p1 + 1) n1 C1 (by omega) (by omega)
        refine hp _ _ (p1 + 1) n1 C1 (q_cs_pass c1) (by omega) (by omega) (fun μ2 f2 a2 c2 m2 => ?_)
        obtain ⟨m, mm, me⟩ := m2
        have fa := f1.tr (q_cf_pass.tr f2)
        have st2 := q_st_cf hc.1 fa
        by_cases e2 : (p (p1 + 1) n1 C1).1 = true
        · rw [q_bd_t e2] at h
          obtain ⟨c2a, c2b⟩ := c2 e2
          obtain ⟨-, g2, g3⟩ := gg
          obtain ⟨g4, g5, g6, -⟩ := g3 e2
          simp only [u64_0, u64_1, u64_2, u64_5, u64_6, u64_7, u64_10, u64_13, u64_15, u64_18, u64_19, u64_22, u64_23, u64_26, u64_28, u64_31, u64_32, u64_35, u64_36, u64_37, u64_40, u64_41, u64_42, u64_45, u64_47, u64_50, u64_53, u64_56, u64_57, ly_kd, ly_al, ly_fv0, ly_fv1, ly_fv2, ly_fv3, ly_fv4, ly_fk, ly_ra, Option.toList, List.cons_append, List.nil_append, q_ski, q_skr, q_sku, if_true, if_false, q_bt e2]
          refine t_add28 (show (p (p1 + 1) n1 C1).2.2.1 ≤ 50 by omega) c2a (fun μ3 f3 e27 a3 m3 => ?_)
          simp only [u64_0, u64_1, u64_2, u64_5, u64_6, u64_7, u64_10, u64_13, u64_15, u64_18, u64_19, u64_22, u64_23, u64_26, u64_28, u64_31, u64_32, u64_35, u64_36, u64_37, u64_40, u64_41, u64_42, u64_45, u64_47, u64_50, u64_53, u64_56, u64_57, ly_kd, ly_al, ly_fv0, ly_fv1, ly_fv2, ly_fv3, ly_fv4, ly_fk, ly_ra, Option.toList, List.cons_append, List.nil_append, q_ski, q_skr, q_sku, if_true, if_false, show nI (f + 1) + -1 = nI f from sb_m1s]
          refine ih _ _ _ μ3 (fa.tr f3) (q_cs_add st2 f3 (by rw [e27]; exact a2) ?_ c2b) (by omega) g2 (by omega) (by omega) h
          have := a3 (by omega)
          refine ⟨this.1, this.2.1, this.2.2.trans ?_⟩
          rw [gz]; decide
        · rw [q_bd_f e2] at h
          simp only [u64_0, u64_1, u64_2, u64_5, u64_6, u64_7, u64_10, u64_13, u64_15, u64_18, u64_19, u64_22, u64_23, u64_26, u64_28, u64_31, u64_32, u64_35, u64_36, u64_37, u64_40, u64_41, u64_42, u64_45, u64_47, u64_50, u64_53, u64_56, u64_57, ly_kd, ly_al, ly_fv0, ly_fv1, ly_fv2, ly_fv3, ly_fv4, ly_fk, ly_ra, Option.toList, List.cons_append, List.nil_append, q_ski, q_skr, q_sku, if_true, if_false, q_bf e2]
          refine t_add28 mm me (fun μ3 f3 e27 a3 m3 => ?_)
          simp only [u64_0, u64_1, u64_2, u64_5, u64_6, u64_7, u64_10, u64_13, u64_15, u64_18, u64_19, u64_22, u64_23, u64_26, u64_28, u64_31, u64_32, u64_35, u64_36, u64_37, u64_40, u64_41, u64_42, u64_45, u64_47, u64_50, u64_53, u64_56, u64_57, ly_kd, ly_al, ly_fv0, ly_fv1, ly_fv2, ly_fv3, ly_fv4, ly_fk, ly_ra, Option.toList, List.cons_append, List.nil_append, q_ski, q_skr, q_sku, if_true, if_false, show nI (f + 1) + -1 = nI f from sb_m1s]
          refine stop f μ3 ?_
          have := h μ3 (fa.tr f3) (by rw [e27]; exact a2) (fun z => absurd z e2) m3
          rw [q_bf e2] at this; exact this
      · rw [if_neg g] at h
        have gz : ¬ A p1 = 124 := fun z => g (by unfold q_s4; exact decide_eq_true z)
        simp only [u64_0, u64_1, u64_2, u64_5, u64_6, u64_7, u64_10, u64_13, u64_15, u64_18, u64_19, u64_22, u64_23, u64_26, u64_28, u64_31, u64_32, u64_35, u64_36, u64_37, u64_40, u64_41, u64_42, u64_45, u64_47, u64_50, u64_53, u64_56, u64_57, ly_kd, ly_al, ly_fv0, ly_fv1, ly_fv2, ly_fv3, ly_fv4, ly_fk, ly_ra, Option.toList, List.cons_append, List.nil_append, q_ski, q_skr, q_sku, if_true, if_false, nz, show ¬ (1 : Int32) = 0 by decide, t_ahead hA h50 c1.1 c1.2.1 hp1, gz, or_true, true_and]
        exact h μ1 f1 c1.2.1 (fun _ => c1.2.2) ⟨n1, by omega, c1.2.2.1⟩
  unfold q_lvl at h
  have gg := hG pos n C hn ht
  by_cases e2 : (p pos n C).1 = true
  · rw [q_bd_t e2] at h
    obtain ⟨-, g2, g3⟩ := gg
    obtain ⟨g4, g5, g6, -⟩ := g3 e2
    rw [q_bt e2]
    exact main t _ _ _ μ1 f1 ⟨st1, a1, c1 e2⟩ (by omega) g2 (by omega) (Nat.le_refl _) h
  · rw [q_bd_f e2] at h
    rw [q_bf e2]
    refine stop t μ1 ?_
    have := h μ1 f1 a1 (fun z => absurd z e2) m1
    rw [q_bf e2] at this; exact this
set_option maxHeartbeats 1000000 in
theorem t_all {A : Nat → Int32} {t u d op : Nat} {p : Nat → Nat → (Nat → Int32) → Bool × Nat × Nat × (Nat → Int32)} (hA : q_by8s A t) (h50 : t ≤ 50) (hG : q_G t p) (hp : q_TC A t u (d + 1) 60 op p) : q_TC A t u (d + 2) 59 op (q_lvl A t q_s3 p) := by
  intro μ R pos n C hc hn ht h
  refine s59.mpr ?_
  have tn : nI t ≤ 0 ↔ t = 0 := (show nI t ≤ nI 0 ↔ t = 0 from ⟨fun z => by
    by_cases y : t = 0
    · exact y
    · exact absurd z (nI_ge (by omega) (by omega)), fun z => by rw [z]; exact Int32.le_refl _⟩)
  simp only [u59_0, u59_1, u59_2, u59_5, u59_6, u59_7, u59_10, u59_13, u59_15, u59_18, u59_19, u59_22, u59_23, u59_26, u59_28, u59_31, u59_32, u59_35, u59_36, u59_37, u59_40, u59_41, u59_42, u59_45, u59_47, u59_50, u59_53, u59_56, u59_57, ly_kd, ly_al, ly_fv0, ly_fv1, ly_fv2, ly_fv3, ly_fv4, ly_fk, ly_ra, Option.toList, List.cons_append, List.nil_append, q_ski, q_skr, q_sku, if_true, if_false]
  refine hp μ _ pos n C hc hn ht (fun μ1 f1 a1 c1 m1 => ?_)
  have st1 := q_st_cf hc.1 f1
  simp only [u59_0, u59_1, u59_2, u59_5, u59_6, u59_7, u59_10, u59_13, u59_15, u59_18, u59_19, u59_22, u59_23, u59_26, u59_28, u59_31, u59_32, u59_35, u59_36, u59_37, u59_40, u59_41, u59_42, u59_45, u59_47, u59_50, u59_53, u59_56, u59_57, ly_kd, ly_al, ly_fv0, ly_fv1, ly_fv2, ly_fv3, ly_fv4, ly_fk, ly_ra, Option.toList, List.cons_append, List.nil_append, q_ski, q_skr, q_sku, if_true, if_false, st1.1, q_n39, st1.2.2.1]
  have stop : ∀ (f : Nat) (μ2 : gM), R (some (.int 0)) μ2 → gc_W (gc_S (d+1)) cX2_readAll 2 1 R 14 [.ref 27, .int (nI op), .int 0, .int (nI f)] [] μ2 := fun f μ2 h2 => by
    refine (u59_14).mpr ?_
    by_cases z : nI f ≤ 0
    · simp only [u59_0, u59_1, u59_2, u59_5, u59_6, u59_7, u59_10, u59_13, u59_15, u59_18, u59_19, u59_22, u59_23, u59_26, u59_28, u59_31, u59_32, u59_35, u59_36, u59_37, u59_40, u59_41, u59_42, u59_45, u59_47, u59_50, u59_53, u59_56, u59_57, z, if_true, true_or, true_and]; exact h2
    · simp only [u59_0, u59_1, u59_2, u59_5, u59_6, u59_7, u59_10, u59_13, u59_15, u59_18, u59_19, u59_22, u59_23, u59_26, u59_28, u59_31, u59_32, u59_35, u59_36, u59_37, u59_40, u59_41, u59_42, u59_45, u59_47, u59_50, u59_53, u59_56, u59_57, z, if_true, if_false, true_or, true_and]; exact h2
  have main : ∀ f p1 n1 C1 μ1, q_cf μ μ1 → q_cs A t u p1 n1 C1 μ1 → n1 ≤ p1 → p1 ≤ t → t ≤ f + p1 → f ≤ t → q_po μ (q_lop A q_s3 p f p1 n1 C1) R → gc_W (gc_S (d+1)) cX2_readAll 2 1 R 14 [.ref 27, .int (nI op), .int 1, .int (nI f)] [] μ1 := by
    intro f
    induction f with
    | zero =>
      intro p1 n1 C1 μ1 f1 c1 hn1 hp1 hf hft h
      refine (u59_14).mpr ?_
      simp only [u59_0, u59_1, u59_2, u59_5, u59_6, u59_7, u59_10, u59_13, u59_15, u59_18, u59_19, u59_22, u59_23, u59_26, u59_28, u59_31, u59_32, u59_35, u59_36, u59_37, u59_40, u59_41, u59_42, u59_45, u59_47, u59_50, u59_53, u59_56, u59_57, show nI 0 ≤ 0 by decide, if_true, or_true, true_and]
      exact h μ1 f1 c1.2.1 (fun _ => c1.2.2) ⟨n1, by omega, c1.2.2.1⟩
    | succ f ih =>
      intro p1 n1 C1 μ1 f1 c1 hn1 hp1 hf hft h
      have e : q_lop A q_s3 p (f + 1) p1 n1 C1 = if q_s3 (A p1) = true then q_bd (p (p1 + 1) n1 C1) (fun p2 n2 C2 => q_lop A q_s3 p f p2 (n2 + 1) (upd C2 n2 (20000 + A p1))) else (true, p1, n1, C1) := rfl
      rw [e] at h
      have nz : ¬ nI (f + 1) ≤ 0 := (show ¬ nI (f + 1) ≤ nI 0 from nI_ge (by omega) (by omega))
      refine (u59_14).mpr ?_
      by_cases g : q_s3 (A p1) = true
      · rw [if_pos g] at h
        have gz : A p1 = 38 := by unfold q_s3 at g; exact of_decide_eq_true g
        have pt := q_in_t hA (by rw [gz]; decide)
        simp only [u59_0, u59_1, u59_2, u59_5, u59_6, u59_7, u59_10, u59_13, u59_15, u59_18, u59_19, u59_22, u59_23, u59_26, u59_28, u59_31, u59_32, u59_35, u59_36, u59_37, u59_40, u59_41, u59_42, u59_45, u59_47, u59_50, u59_53, u59_56, u59_57, ly_kd, ly_al, ly_fv0, ly_fv1, ly_fv2, ly_fv3, ly_fv4, ly_fk, ly_ra, Option.toList, List.cons_append, List.nil_append, q_ski, q_skr, q_sku, if_true, if_false, nz, show ¬ (1 : Int32) = 0 by decide, t_ahead hA h50 c1.1 c1.2.1 hp1, gz, t_pass c1.2.1]
        have gg := hG (p1 + 1) n1 C1 (by omega) (by omega)
        refine hp _ _ (p1 + 1) n1 C1 (q_cs_pass c1) (by omega) (by omega) (fun μ2 f2 a2 c2 m2 => ?_)
        obtain ⟨m, mm, me⟩ := m2
        have fa := f1.tr (q_cf_pass.tr f2)
        have st2 := q_st_cf hc.1 fa
        by_cases e2 : (p (p1 + 1) n1 C1).1 = true
        · rw [q_bd_t e2] at h
          obtain ⟨c2a, c2b⟩ := c2 e2
          obtain ⟨-, g2, g3⟩ := gg
          obtain ⟨g4, g5, g6, -⟩ := g3 e2
          simp only [u59_0, u59_1, u59_2, u59_5, u59_6, u59_7, u59_10, u59_13, u59_15, u59_18, u59_19, u59_22, u59_23, u59_26, u59_28, u59_31, u59_32, u59_35, u59_36, u59_37, u59_40, u59_41, u59_42, u59_45, u59_47, u59_50, u59_53, u59_56, u59_57, ly_kd, ly_al, ly_fv0, ly_fv1, ly_fv2, ly_fv3, ly_fv4, ly_fk, ly_ra, Option.toList, List.cons_append, List.nil_append, q_ski, q_skr, q_sku, if_true, if_false, q_bt e2]
          refine t_add28 (show (p (p1 + 1) n1 C1).2.2.1 ≤ 50 by omega) c2a (fun μ3 f3 e27 a3 m3 => ?_)
          simp only [u59_0, u59_1, u59_2, u59_5, u59_6, u59_7, u59_10, u59_13, u59_15, u59_18, u59_19, u59_22, u59_23, u59_26, u59_28, u59_31, u59_32, u59_35, u59_36, u59_37, u59_40, u59_41, u59_42, u59_45, u59_47, u59_50, u59_53, u59_56, u59_57, ly_kd, ly_al, ly_fv0, ly_fv1, ly_fv2, ly_fv3, ly_fv4, ly_fk, ly_ra, Option.toList, List.cons_append, List.nil_append, q_ski, q_skr, q_sku, if_true, if_false, show nI (f + 1) + -1 = nI f from sb_m1s]
          refine ih _ _ _ μ3 (fa.tr f3) (q_cs_add st2 f3 (by rw [e27]; exact a2) ?_ c2b) (by omega) g2 (by omega) (by omega) h
          have := a3 (by omega)
          refine ⟨this.1, this.2.1, this.2.2.trans ?_⟩
          rw [gz]; decide
        · rw [q_bd_f e2] at h
          simp only [u59_0, u59_1, u59_2, u59_5, u59_6, u59_7, u59_10, u59_13, u59_15, u59_18, u59_19, u59_22, u59_23, u59_26, u59_28, u59_31, u59_32, u59_35, u59_36, u59_37, u59_40, u59_41, u59_42, u59_45, u59_47, u59_50, u59_53, u59_56, u59_57, ly_kd, ly_al, ly_fv0, ly_fv1, ly_fv2, ly_fv3, ly_fv4, ly_fk, ly_ra, Option.toList, List.cons_append, List.nil_append, q_ski, q_skr, q_sku, if_true, if_false, q_bf e2]
          refine t_add28 mm me (fun μ3 f3 e27 a3 m3 => ?_)
          simp only [u59_0, u59_1, u59_2, u59_5, u59_6, u59_7, u59_10, u59_13, u59_15, u59_18, u59_19, u59_22, u59_23, u59_26, u59_28, u59_31, u59_32, u59_35, u59_36, u59_37, u59_40, u59_41, u59_42, u59_45, u59_47, u59_50, u59_53, u59_56, u59_57, ly_kd, ly_al, ly_fv0, ly_fv1, ly_fv2, ly_fv3, ly_fv4, ly_fk, ly_ra, Option.toList, List.cons_append, List.nil_append, q_ski, q_skr, q_sku, if_true, if_false, show nI (f + 1) + -1 = nI f from sb_m1s]
          refine stop f μ3 ?_
          have := h μ3 (fa.tr f3) (by rw [e27]; exact a2) (fun z => absurd z e2) m3
          rw [q_bf e2] at this; exact this
      · rw [if_neg g] at h
        have gz : ¬ A p1 = 38 := fun z => g (by unfold q_s3; exact decide_eq_true z)
        simp only [u59_0, u59_1, u59_2, u59_5, u59_6, u59_7, u59_10, u59_13, u59_15, u59_18, u59_19, u59_22, u59_23, u59_26, u59_28, u59_31, u59_32, u59_35, u59_36, u59_37, u59_40, u59_41, u59_42, u59_45, u59_47, u59_50, u59_53, u59_56, u59_57, ly_kd, ly_al, ly_fv0, ly_fv1, ly_fv2, ly_fv3, ly_fv4, ly_fk, ly_ra, Option.toList, List.cons_append, List.nil_append, q_ski, q_skr, q_sku, if_true, if_false, nz, show ¬ (1 : Int32) = 0 by decide, t_ahead hA h50 c1.1 c1.2.1 hp1, gz, or_true, true_and]
        exact h μ1 f1 c1.2.1 (fun _ => c1.2.2) ⟨n1, by omega, c1.2.2.1⟩
  unfold q_lvl at h
  have gg := hG pos n C hn ht
  by_cases e2 : (p pos n C).1 = true
  · rw [q_bd_t e2] at h
    obtain ⟨-, g2, g3⟩ := gg
    obtain ⟨g4, g5, g6, -⟩ := g3 e2
    rw [q_bt e2]
    exact main t _ _ _ μ1 f1 ⟨st1, a1, c1 e2⟩ (by omega) g2 (by omega) (Nat.le_refl _) h
  · rw [q_bd_f e2] at h
    rw [q_bf e2]
    refine stop t μ1 ?_
    have := h μ1 f1 a1 (fun z => absurd z e2) m1
    rw [q_bf e2] at this; exact this
set_option maxHeartbeats 1000000 in
theorem t_product {A : Nat → Int32} {t u d op : Nat} {p : Nat → Nat → (Nat → Int32) → Bool × Nat × Nat × (Nat → Int32)} (hA : q_by8s A t) (h50 : t ≤ 50) (hG : q_G t p) (hp : q_TC A t u (d + 1) 61 op p) : q_TC A t u (d + 2) 62 op (q_lvl A t q_s0 p) := by
  intro μ R pos n C hc hn ht h
  refine s62.mpr ?_
  simp only [u62_0, u62_1, u62_2, u62_5, u62_6, u62_7, u62_10, u62_11, u62_12, u62_15, u62_18, u62_22, u62_25, u62_26, u62_29, u62_30, u62_32, u62_35, u62_36, u62_38, u62_41, u62_42, u62_44, u62_47, u62_48, u62_51, u62_52, u62_53, u62_56, u62_57, u62_58, u62_61, u62_62, u62_63, u62_66, u62_67, u62_70, u62_71, u62_74, u62_77, u62_78, ly_kd, ly_al, ly_fv0, ly_fv1, ly_fv2, ly_fv3, ly_fv4, ly_fk, ly_ra, Option.toList, List.cons_append, List.nil_append, q_ski, q_skr, q_sku, if_true, if_false]
  refine hp μ _ pos n C hc hn ht (fun μ1 f1 a1 c1 m1 => ?_)
  have st1 := q_st_cf hc.1 f1
  have gg := hG pos n C hn ht
  simp only [u62_0, u62_1, u62_2, u62_5, u62_6, u62_7, u62_10, u62_11, u62_12, u62_15, u62_18, u62_22, u62_25, u62_26, u62_29, u62_30, u62_32, u62_35, u62_36, u62_38, u62_41, u62_42, u62_44, u62_47, u62_48, u62_51, u62_52, u62_53, u62_56, u62_57, u62_58, u62_61, u62_62, u62_63, u62_66, u62_67, u62_70, u62_71, u62_74, u62_77, u62_78, ly_kd, ly_al, ly_fv0, ly_fv1, ly_fv2, ly_fv3, ly_fv4, ly_fk, ly_ra, Option.toList, List.cons_append, List.nil_append, q_ski, q_skr, q_sku, if_true, if_false, st1.1, q_n39, st1.2.2.1, t_ahead hA h50 st1 a1 gg.2.1]
  have stop : ∀ (f : Nat) (z : Int32) (μ2 : gM), R (some (.int 0)) μ2 → gc_W (gc_S (d+1)) cX2_readProduct 2 1 R 20 [.ref 27, .int (nI op), .int 0, .int z, .int (nI f)] [] μ2 := fun f z μ2 h2 => by
    refine (u62_20).mpr ?_
    by_cases z : nI f ≤ 0
    · simp only [u62_0, u62_1, u62_2, u62_5, u62_6, u62_7, u62_10, u62_11, u62_12, u62_15, u62_18, u62_22, u62_25, u62_26, u62_29, u62_30, u62_32, u62_35, u62_36, u62_38, u62_41, u62_42, u62_44, u62_48, u62_51, u62_52, u62_53, u62_56, u62_57, u62_58, u62_61, u62_62, u62_63, u62_66, u62_67, u62_70, u62_71, u62_74, u62_77, u62_78, z, if_true, true_or, true_and]; exact h2
    · simp only [u62_0, u62_1, u62_2, u62_5, u62_6, u62_7, u62_10, u62_11, u62_12, u62_15, u62_18, u62_22, u62_25, u62_26, u62_29, u62_30, u62_32, u62_35, u62_36, u62_38, u62_41, u62_42, u62_44, u62_48, u62_51, u62_52, u62_53, u62_56, u62_57, u62_58, u62_61, u62_62, u62_63, u62_66, u62_67, u62_70, u62_71, u62_74, u62_77, u62_78, z, if_true, if_false, true_or, true_and]; exact h2
  have main : ∀ f p1 n1 C1 μ1, q_cf μ μ1 → q_cs A t u p1 n1 C1 μ1 → n1 ≤ p1 → p1 ≤ t → t ≤ f + p1 → f ≤ t → q_po μ (q_lop A q_s0 p f p1 n1 C1) R → gc_W (gc_S (d+1)) cX2_readProduct 2 1 R 20 [.ref 27, .int (nI op), .int 1, .int (A p1), .int (nI f)] [] μ1 := by
    intro f
    induction f with
    | zero =>
      intro p1 n1 C1 μ1 f1 c1 hn1 hp1 hf hft h
      refine (u62_20).mpr ?_
      simp only [u62_0, u62_1, u62_2, u62_5, u62_6, u62_7, u62_10, u62_11, u62_12, u62_15, u62_18, u62_22, u62_25, u62_26, u62_29, u62_30, u62_32, u62_35, u62_36, u62_38, u62_41, u62_42, u62_44, u62_48, u62_51, u62_52, u62_53, u62_56, u62_57, u62_58, u62_61, u62_62, u62_63, u62_66, u62_67, u62_70, u62_71, u62_74, u62_77, u62_78, show nI 0 ≤ 0 by decide, if_true, or_true, true_and]
      exact h μ1 f1 c1.2.1 (fun _ => c1.2.2) ⟨n1, by omega, c1.2.2.1⟩
    | succ f ih =>
      intro p1 n1 C1 μ1 f1 c1 hn1 hp1 hf hft h
      have e : q_lop A q_s0 p (f + 1) p1 n1 C1 = if q_s0 (A p1) = true then q_bd (p (p1 + 1) n1 C1) (fun p2 n2 C2 => q_lop A q_s0 p f p2 (n2 + 1) (upd C2 n2 (20000 + A p1))) else (true, p1, n1, C1) := rfl
      rw [e] at h
      have nz : ¬ nI (f + 1) ≤ 0 := (show ¬ nI (f + 1) ≤ nI 0 from nI_ge (by omega) (by omega))
      refine (u62_20).mpr ?_
      by_cases g : q_s0 (A p1) = true
      · rw [if_pos g] at h
        obtain ⟨sg1, sg2, -⟩ := q_sgn0 _ g
        have gz : A p1 = 42 ∨ A p1 = 47 ∨ A p1 = 37 := q_s0i g
        have pt := q_in_t hA sg1
        have body : gc_W (gc_S (d+1)) cX2_readProduct 2 1 R 47 [.ref 27, .int (nI op), .int 1, .int (A p1), .int (nI (f + 1))] [] μ1 := by
          refine (u62_47).mpr ?_
          simp only [u62_0, u62_1, u62_2, u62_5, u62_6, u62_7, u62_10, u62_11, u62_12, u62_15, u62_18, u62_22, u62_25, u62_26, u62_29, u62_30, u62_32, u62_35, u62_36, u62_38, u62_41, u62_42, u62_44, u62_48, u62_51, u62_52, u62_53, u62_56, u62_57, u62_58, u62_61, u62_62, u62_63, u62_66, u62_67, u62_70, u62_71, u62_74, u62_77, u62_78, ly_kd, ly_al, ly_fv0, ly_fv1, ly_fv2, ly_fv3, ly_fv4, ly_fk, ly_ra, Option.toList, List.cons_append, List.nil_append, q_ski, q_skr, q_sku, if_true, if_false, t_pass c1.2.1]
          have gg := hG (p1 + 1) n1 C1 (by omega) (by omega)
          refine hp _ _ (p1 + 1) n1 C1 (q_cs_pass c1) (by omega) (by omega) (fun μ2 f2 a2 c2 m2 => ?_)
          obtain ⟨m, mm, me⟩ := m2
          have fa := f1.tr (q_cf_pass.tr f2)
          have st2 := q_st_cf hc.1 fa
          have gg2 := gg.2.1
          by_cases e2 : (p (p1 + 1) n1 C1).1 = true
          · rw [q_bd_t e2] at h
            obtain ⟨c2a, c2b⟩ := c2 e2
            obtain ⟨-, g2, g3⟩ := gg
            obtain ⟨g4, g5, g6, -⟩ := g3 e2
            simp only [u62_0, u62_1, u62_2, u62_5, u62_6, u62_7, u62_10, u62_11, u62_12, u62_15, u62_18, u62_22, u62_25, u62_26, u62_29, u62_30, u62_32, u62_35, u62_36, u62_38, u62_41, u62_42, u62_44, u62_48, u62_51, u62_52, u62_53, u62_56, u62_57, u62_58, u62_61, u62_62, u62_63, u62_66, u62_67, u62_70, u62_71, u62_74, u62_77, u62_78, ly_kd, ly_al, ly_fv0, ly_fv1, ly_fv2, ly_fv3, ly_fv4, ly_fk, ly_ra, Option.toList, List.cons_append, List.nil_append, q_ski, q_skr, q_sku, if_true, if_false, q_bt e2]
            refine t_add28 (show (p (p1 + 1) n1 C1).2.2.1 ≤ 50 by omega) c2a (fun μ3 f3 e27 a3 m3 => ?_)
            have e274 : μ3 27 4 = nI (p (p1 + 1) n1 C1).2.1 := by rw [e27]; exact a2
            simp only [u62_0, u62_1, u62_2, u62_5, u62_6, u62_7, u62_10, u62_11, u62_12, u62_15, u62_18, u62_22, u62_25, u62_26, u62_29, u62_30, u62_32, u62_35, u62_36, u62_38, u62_41, u62_42, u62_44, u62_48, u62_51, u62_52, u62_53, u62_56, u62_57, u62_58, u62_61, u62_62, u62_63, u62_66, u62_67, u62_70, u62_71, u62_74, u62_77, u62_78, ly_kd, ly_al, ly_fv0, ly_fv1, ly_fv2, ly_fv3, ly_fv4, ly_fk, ly_ra, Option.toList, List.cons_append, List.nil_append, q_ski, q_skr, q_sku, if_true, if_false, t_ahead hA h50 (q_st_cf st2 f3) e274 g2, show nI (f + 1) + -1 = nI f from sb_m1s]
            refine ih _ _ _ μ3 (fa.tr f3) (q_cs_add st2 f3 e274 ?_ c2b) (by omega) g2 (by omega) (by omega) h
            have := a3 (by omega)
            exact ⟨this.1, this.2.1, this.2.2.trans sg2.symm⟩
          · rw [q_bd_f e2] at h
            simp only [u62_0, u62_1, u62_2, u62_5, u62_6, u62_7, u62_10, u62_11, u62_12, u62_15, u62_18, u62_22, u62_25, u62_26, u62_29, u62_30, u62_32, u62_35, u62_36, u62_38, u62_41, u62_42, u62_44, u62_48, u62_51, u62_52, u62_53, u62_56, u62_57, u62_58, u62_61, u62_62, u62_63, u62_66, u62_67, u62_70, u62_71, u62_74, u62_77, u62_78, ly_kd, ly_al, ly_fv0, ly_fv1, ly_fv2, ly_fv3, ly_fv4, ly_fk, ly_ra, Option.toList, List.cons_append, List.nil_append, q_ski, q_skr, q_sku, if_true, if_false, q_bf e2]
            refine t_add28 mm me (fun μ3 f3 e27 a3 m3 => ?_)
            have e274 : μ3 27 4 = nI (p (p1 + 1) n1 C1).2.1 := by rw [e27]; exact a2
            simp only [u62_0, u62_1, u62_2, u62_5, u62_6, u62_7, u62_10, u62_11, u62_12, u62_15, u62_18, u62_22, u62_25, u62_26, u62_29, u62_30, u62_32, u62_35, u62_36, u62_38, u62_41, u62_42, u62_44, u62_48, u62_51, u62_52, u62_53, u62_56, u62_57, u62_58, u62_61, u62_62, u62_63, u62_66, u62_67, u62_70, u62_71, u62_74, u62_77, u62_78, ly_kd, ly_al, ly_fv0, ly_fv1, ly_fv2, ly_fv3, ly_fv4, ly_fk, ly_ra, Option.toList, List.cons_append, List.nil_append, q_ski, q_skr, q_sku, if_true, if_false, t_ahead hA h50 (q_st_cf st2 f3) e274 gg2, show nI (f + 1) + -1 = nI f from sb_m1s]
            refine stop f _ μ3 ?_
            have := h μ3 (fa.tr f3) e274 (fun z => absurd z e2) m3
            rw [q_bf e2] at this; exact this
        rcases gz with gz | gz | gz
        · simp only [u62_0, u62_1, u62_2, u62_5, u62_6, u62_7, u62_10, u62_11, u62_12, u62_15, u62_18, u62_22, u62_25, u62_26, u62_29, u62_30, u62_32, u62_35, u62_36, u62_38, u62_41, u62_42, u62_44, u62_48, u62_51, u62_52, u62_53, u62_56, u62_57, u62_58, u62_61, u62_62, u62_63, u62_66, u62_67, u62_70, u62_71, u62_74, u62_77, u62_78, ly_kd, ly_al, ly_fv0, ly_fv1, ly_fv2, ly_fv3, ly_fv4, ly_fk, ly_ra, Option.toList, List.cons_append, List.nil_append, q_ski, q_skr, q_sku, if_true, if_false, nz, show ¬ (1 : Int32) = 0 by decide, gz, show ¬ (42 : Int32) = 47 by decide, show ¬ (42 : Int32) = 37 by decide]
          rw [← gz]; exact body
        · simp only [u62_0, u62_1, u62_2, u62_5, u62_6, u62_7, u62_10, u62_11, u62_12, u62_15, u62_18, u62_22, u62_25, u62_26, u62_29, u62_30, u62_32, u62_35, u62_36, u62_38, u62_41, u62_42, u62_44, u62_48, u62_51, u62_52, u62_53, u62_56, u62_57, u62_58, u62_61, u62_62, u62_63, u62_66, u62_67, u62_70, u62_71, u62_74, u62_77, u62_78, ly_kd, ly_al, ly_fv0, ly_fv1, ly_fv2, ly_fv3, ly_fv4, ly_fk, ly_ra, Option.toList, List.cons_append, List.nil_append, q_ski, q_skr, q_sku, if_true, if_false, nz, show ¬ (1 : Int32) = 0 by decide, gz, show ¬ (47 : Int32) = 42 by decide, show ¬ (47 : Int32) = 37 by decide]
          rw [← gz]; exact body
        · simp only [u62_0, u62_1, u62_2, u62_5, u62_6, u62_7, u62_10, u62_11, u62_12, u62_15, u62_18, u62_22, u62_25, u62_26, u62_29, u62_30, u62_32, u62_35, u62_36, u62_38, u62_41, u62_42, u62_44, u62_48, u62_51, u62_52, u62_53, u62_56, u62_57, u62_58, u62_61, u62_62, u62_63, u62_66, u62_67, u62_70, u62_71, u62_74, u62_77, u62_78, ly_kd, ly_al, ly_fv0, ly_fv1, ly_fv2, ly_fv3, ly_fv4, ly_fk, ly_ra, Option.toList, List.cons_append, List.nil_append, q_ski, q_skr, q_sku, if_true, if_false, nz, show ¬ (1 : Int32) = 0 by decide, gz, show ¬ (37 : Int32) = 42 by decide, show ¬ (37 : Int32) = 47 by decide]
          rw [← gz]; exact body
      · rw [if_neg g] at h
        have gz42 : ¬ A p1 = 42 := fun z => g (by unfold q_s0; rw [z]; rfl)
        have gz47 : ¬ A p1 = 47 := fun z => g (by unfold q_s0; rw [z]; rfl)
        have gz37 : ¬ A p1 = 37 := fun z => g (by unfold q_s0; rw [z]; rfl)
        simp only [u62_0, u62_1, u62_2, u62_5, u62_6, u62_7, u62_10, u62_11, u62_12, u62_15, u62_18, u62_22, u62_25, u62_26, u62_29, u62_30, u62_32, u62_35, u62_36, u62_38, u62_41, u62_42, u62_44, u62_48, u62_51, u62_52, u62_53, u62_56, u62_57, u62_58, u62_61, u62_62, u62_63, u62_66, u62_67, u62_70, u62_71, u62_74, u62_77, u62_78, ly_kd, ly_al, ly_fv0, ly_fv1, ly_fv2, ly_fv3, ly_fv4, ly_fk, ly_ra, Option.toList, List.cons_append, List.nil_append, q_ski, q_skr, q_sku, if_true, if_false, nz, show ¬ (1 : Int32) = 0 by decide, gz42, gz47, gz37, or_true, true_and]
        exact h μ1 f1 c1.2.1 (fun _ => c1.2.2) ⟨n1, by omega, c1.2.2.1⟩
  unfold q_lvl at h
  by_cases e2 : (p pos n C).1 = true
  · rw [q_bd_t e2] at h
    obtain ⟨-, g2, g3⟩ := gg
    obtain ⟨g4, g5, g6, -⟩ := g3 e2
    rw [q_bt e2]
    exact main t _ _ _ μ1 f1 ⟨st1, a1, c1 e2⟩ (by omega) g2 (by omega) (Nat.le_refl _) h
  · rw [q_bd_f e2] at h
    rw [q_bf e2]
    refine stop t _ μ1 ?_
    have := h μ1 f1 a1 (fun z => absurd z e2) m1
    rw [q_bf e2] at this; exact this
set_option maxHeartbeats 1000000 in
theorem t_sum {A : Nat → Int32} {t u d op : Nat} {p : Nat → Nat → (Nat → Int32) → Bool × Nat × Nat × (Nat → Int32)} (hA : q_by8s A t) (h50 : t ≤ 50) (hG : q_G t p) (hp : q_TC A t u (d + 1) 62 op p) : q_TC A t u (d + 2) 63 op (q_lvl A t q_s1 p) := by
  intro μ R pos n C hc hn ht h
  refine s63.mpr ?_
  simp only [u63_0, u63_1, u63_2, u63_5, u63_6, u63_7, u63_10, u63_11, u63_12, u63_15, u63_18, u63_22, u63_25, u63_26, u63_29, u63_30, u63_32, u63_35, u63_36, u63_38, u63_41, u63_42, u63_45, u63_46, u63_47, u63_50, u63_51, u63_52, u63_55, u63_56, u63_57, u63_60, u63_61, u63_64, u63_65, u63_68, u63_71, u63_72, ly_kd, ly_al, ly_fv0, ly_fv1, ly_fv2, ly_fv3, ly_fv4, ly_fk, ly_ra, Option.toList, List.cons_append, List.nil_append, q_ski, q_skr, q_sku, if_true, if_false]
  refine hp μ _ pos n C hc hn ht (fun μ1 f1 a1 c1 m1 => ?_)
  have st1 := q_st_cf hc.1 f1
  have gg := hG pos n C hn ht
  simp only [u63_0, u63_1, u63_2, u63_5, u63_6, u63_7, u63_10, u63_11, u63_12, u63_15, u63_18, u63_22, u63_25, u63_26, u63_29, u63_30, u63_32, u63_35, u63_36, u63_38, u63_41, u63_42, u63_45, u63_46, u63_47, u63_50, u63_51, u63_52, u63_55, u63_56, u63_57, u63_60, u63_61, u63_64, u63_65, u63_68, u63_71, u63_72, ly_kd, ly_al, ly_fv0, ly_fv1, ly_fv2, ly_fv3, ly_fv4, ly_fk, ly_ra, Option.toList, List.cons_append, List.nil_append, q_ski, q_skr, q_sku, if_true, if_false, st1.1, q_n39, st1.2.2.1, t_ahead hA h50 st1 a1 gg.2.1]
  have stop : ∀ (f : Nat) (z : Int32) (μ2 : gM), R (some (.int 0)) μ2 → gc_W (gc_S (d+1)) cX2_readSum 2 1 R 20 [.ref 27, .int (nI op), .int 0, .int z, .int (nI f)] [] μ2 := fun f z μ2 h2 => by
    refine (u63_20).mpr ?_
    by_cases z : nI f ≤ 0
    · simp only [u63_0, u63_1, u63_2, u63_5, u63_6, u63_7, u63_10, u63_11, u63_12, u63_15, u63_18, u63_22, u63_25, u63_26, u63_29, u63_30, u63_32, u63_35, u63_36, u63_38, u63_42, u63_45, u63_46, u63_47, u63_50, u63_51, u63_52, u63_55, u63_56, u63_57, u63_60, u63_61, u63_64, u63_65, u63_68, u63_71, u63_72, z, if_true, true_or, true_and]; exact h2
    · simp only [u63_0, u63_1, u63_2, u63_5, u63_6, u63_7, u63_10, u63_11, u63_12, u63_15, u63_18, u63_22, u63_25, u63_26, u63_29, u63_30, u63_32, u63_35, u63_36, u63_38, u63_42, u63_45, u63_46, u63_47, u63_50, u63_51, u63_52, u63_55, u63_56, u63_57, u63_60, u63_61, u63_64, u63_65, u63_68, u63_71, u63_72, z, if_true, if_false, true_or, true_and]; exact h2
  have main : ∀ f p1 n1 C1 μ1, q_cf μ μ1 → q_cs A t u p1 n1 C1 μ1 → n1 ≤ p1 → p1 ≤ t → t ≤ f + p1 → f ≤ t → q_po μ (q_lop A q_s1 p f p1 n1 C1) R → gc_W (gc_S (d+1)) cX2_readSum 2 1 R 20 [.ref 27, .int (nI op), .int 1, .int (A p1), .int (nI f)] [] μ1 := by
    intro f
    induction f with
    | zero =>
      intro p1 n1 C1 μ1 f1 c1 hn1 hp1 hf hft h
      refine (u63_20).mpr ?_
      simp only [u63_0, u63_1, u63_2, u63_5, u63_6, u63_7, u63_10, u63_11, u63_12, u63_15, u63_18, u63_22, u63_25, u63_26, u63_29, u63_30, u63_32, u63_35, u63_36, u63_38, u63_42, u63_45, u63_46, u63_47, u63_50, u63_51, u63_52, u63_55, u63_56, u63_57, u63_60, u63_61, u63_64, u63_65, u63_68, u63_71, u63_72, show nI 0 ≤ 0 by decide, if_true, or_true, true_and]
      exact h μ1 f1 c1.2.1 (fun _ => c1.2.2) ⟨n1, by omega, c1.2.2.1⟩
    | succ f ih =>
      intro p1 n1 C1 μ1 f1 c1 hn1 hp1 hf hft h
      have e : q_lop A q_s1 p (f + 1) p1 n1 C1 = if q_s1 (A p1) = true then q_bd (p (p1 + 1) n1 C1) (fun p2 n2 C2 => q_lop A q_s1 p f p2 (n2 + 1) (upd C2 n2 (20000 + A p1))) else (true, p1, n1, C1) := rfl
      rw [e] at h
      have nz : ¬ nI (f + 1) ≤ 0 := (show ¬ nI (f + 1) ≤ nI 0 from nI_ge (by omega) (by omega))
      refine (u63_20).mpr ?_
      by_cases g : q_s1 (A p1) = true
      · rw [if_pos g] at h
        obtain ⟨sg1, sg2, -⟩ := q_sgn1 _ g
        have gz : A p1 = 43 ∨ A p1 = 45 := q_s1i g
        have pt := q_in_t hA sg1
        have body : gc_W (gc_S (d+1)) cX2_readSum 2 1 R 41 [.ref 27, .int (nI op), .int 1, .int (A p1), .int (nI (f + 1))] [] μ1 := by
          refine (u63_41).mpr ?_
          simp only [u63_0, u63_1, u63_2, u63_5, u63_6, u63_7, u63_10, u63_11, u63_12, u63_15, u63_18, u63_22, u63_25, u63_26, u63_29, u63_30, u63_32, u63_35, u63_36, u63_38, u63_42, u63_45, u63_46, u63_47, u63_50, u63_51, u63_52, u63_55, u63_56, u63_57, u63_60, u63_61, u63_64, u63_65, u63_68, u63_71, u63_72, ly_kd, ly_al, ly_fv0, ly_fv1, ly_fv2, ly_fv3, ly_fv4, ly_fk, ly_ra, Option.toList, List.cons_append, List.nil_append, q_ski, q_skr, q_sku, if_true, if_false, t_pass c1.2.1]
          have gg := hG (p1 + 1) n1 C1 (by omega) (by omega)
          refine hp _ _ (p1 + 1) n1 C1 (q_cs_pass c1) (by omega) (by omega) (fun μ2 f2 a2 c2 m2 => ?_)
          obtain ⟨m, mm, me⟩ := m2
          have fa := f1.tr (q_cf_pass.tr f2)
          have st2 := q_st_cf hc.1 fa
          have gg2 := gg.2.1
          by_cases e2 : (p (p1 + 1) n1 C1).1 = true
          · rw [q_bd_t e2] at h
            obtain ⟨c2a, c2b⟩ := c2 e2
            obtain ⟨-, g2, g3⟩ := gg
            obtain ⟨g4, g5, g6, -⟩ := g3 e2
            simp only [u63_0, u63_1, u63_2, u63_5, u63_6, u63_7, u63_10, u63_11, u63_12, u63_15, u63_18, u63_22, u63_25, u63_26, u63_29, u63_30, u63_32, u63_35, u63_36, u63_38, u63_42, u63_45, u63_46, u63_47, u63_50, u63_51, u63_52, u63_55, u63_56, u63_57, u63_60, u63_61, u63_64, u63_65, u63_68, u63_71, u63_72, ly_kd, ly_al, ly_fv0, ly_fv1, ly_fv2, ly_fv3, ly_fv4, ly_fk, ly_ra, Option.toList, List.cons_append, List.nil_append, q_ski, q_skr, q_sku, if_true, if_false, q_bt e2]
            refine t_add28 (show (p (p1 + 1) n1 C1).2.2.1 ≤ 50 by omega) c2a (fun μ3 f3 e27 a3 m3 => ?_)
            have e274 : μ3 27 4 = nI (p (p1 + 1) n1 C1).2.1 := by rw [e27]; exact a2
            simp only [u63_0, u63_1, u63_2, u63_5, u63_6, u63_7, u63_10, u63_11, u63_12, u63_15, u63_18, u63_22, u63_25, u63_26, u63_29, u63_30, u63_32, u63_35, u63_36, u63_38, u63_42, u63_45, u63_46, u63_47, u63_50, u63_51, u63_52, u63_55, u63_56, u63_57, u63_60, u63_61, u63_64, u63_65, u63_68, u63_71, u63_72, ly_kd, ly_al, ly_fv0, ly_fv1, ly_fv2, ly_fv3, ly_fv4, ly_fk, ly_ra, Option.toList, List.cons_append, List.nil_append, q_ski, q_skr, q_sku, if_true, if_false, t_ahead hA h50 (q_st_cf st2 f3) e274 g2, show nI (f + 1) + -1 = nI f from sb_m1s]
            refine ih _ _ _ μ3 (fa.tr f3) (q_cs_add st2 f3 e274 ?_ c2b) (by omega) g2 (by omega) (by omega) h
            have := a3 (by omega)
            exact ⟨this.1, this.2.1, this.2.2.trans sg2.symm⟩
          · rw [q_bd_f e2] at h
            simp only [u63_0, u63_1, u63_2, u63_5, u63_6, u63_7, u63_10, u63_11, u63_12, u63_15, u63_18, u63_22, u63_25, u63_26, u63_29, u63_30, u63_32, u63_35, u63_36, u63_38, u63_42, u63_45, u63_46, u63_47, u63_50, u63_51, u63_52, u63_55, u63_56, u63_57, u63_60, u63_61, u63_64, u63_65, u63_68, u63_71, u63_72, ly_kd, ly_al, ly_fv0, ly_fv1, ly_fv2, ly_fv3, ly_fv4, ly_fk, ly_ra, Option.toList, List.cons_append, List.nil_append, q_ski, q_skr, q_sku, if_true, if_false, q_bf e2]
            refine t_add28 mm me (fun μ3 f3 e27 a3 m3 => ?_)
            have e274 : μ3 27 4 = nI (p (p1 + 1) n1 C1).2.1 := by rw [e27]; exact a2
            simp only [u63_0, u63_1, u63_2, u63_5, u63_6, u63_7, u63_10, u63_11, u63_12, u63_15, u63_18, u63_22, u63_25, u63_26, u63_29, u63_30, u63_32, u63_35, u63_36, u63_38, u63_42, u63_45, u63_46, u63_47, u63_50, u63_51, u63_52, u63_55, u63_56, u63_57, u63_60, u63_61, u63_64, u63_65, u63_68, u63_71, u63_72, ly_kd, ly_al, ly_fv0, ly_fv1, ly_fv2, ly_fv3, ly_fv4, ly_fk, ly_ra, Option.toList, List.cons_append, List.nil_append, q_ski, q_skr, q_sku, if_true, if_false, t_ahead hA h50 (q_st_cf st2 f3) e274 gg2, show nI (f + 1) + -1 = nI f from sb_m1s]
            refine stop f _ μ3 ?_
            have := h μ3 (fa.tr f3) e274 (fun z => absurd z e2) m3
            rw [q_bf e2] at this; exact this
        rcases gz with gz | gz
        · simp only [u63_0, u63_1, u63_2, u63_5, u63_6, u63_7, u63_10, u63_11, u63_12, u63_15, u63_18, u63_22, u63_25, u63_26, u63_29, u63_30, u63_32, u63_35, u63_36, u63_38, u63_42, u63_45, u63_46, u63_47, u63_50, u63_51, u63_52, u63_55, u63_56, u63_57, u63_60, u63_61, u63_64, u63_65, u63_68, u63_71, u63_72, ly_kd, ly_al, ly_fv0, ly_fv1, ly_fv2, ly_fv3, ly_fv4, ly_fk, ly_ra, Option.toList, List.cons_append, List.nil_append, q_ski, q_skr, q_sku, if_true, if_false, nz, show ¬ (1 : Int32) = 0 by decide, gz, show ¬ (43 : Int32) = 45 by decide]
          rw [← gz]; exact body
        · simp only [u63_0, u63_1, u63_2, u63_5, u63_6, u63_7, u63_10, u63_11, u63_12, u63_15, u63_18, u63_22, u63_25, u63_26, u63_29, u63_30, u63_32, u63_35, u63_36, u63_38, u63_42, u63_45, u63_46, u63_47, u63_50, u63_51, u63_52, u63_55, u63_56, u63_57, u63_60, u63_61, u63_64, u63_65, u63_68, u63_71, u63_72, ly_kd, ly_al, ly_fv0, ly_fv1, ly_fv2, ly_fv3, ly_fv4, ly_fk, ly_ra, Option.toList, List.cons_append, List.nil_append, q_ski, q_skr, q_sku, if_true, if_false, nz, show ¬ (1 : Int32) = 0 by decide, gz, show ¬ (45 : Int32) = 43 by decide]
          rw [← gz]; exact body
      · rw [if_neg g] at h
        have gz43 : ¬ A p1 = 43 := fun z => g (by unfold q_s1; rw [z]; rfl)
        have gz45 : ¬ A p1 = 45 := fun z => g (by unfold q_s1; rw [z]; rfl)
        simp only [u63_0, u63_1, u63_2, u63_5, u63_6, u63_7, u63_10, u63_11, u63_12, u63_15, u63_18, u63_22, u63_25, u63_26, u63_29, u63_30, u63_32, u63_35, u63_36, u63_38, u63_42, u63_45, u63_46, u63_47, u63_50, u63_51, u63_52, u63_55, u63_56, u63_57, u63_60, u63_61, u63_64, u63_65, u63_68, u63_71, u63_72, ly_kd, ly_al, ly_fv0, ly_fv1, ly_fv2, ly_fv3, ly_fv4, ly_fk, ly_ra, Option.toList, List.cons_append, List.nil_append, q_ski, q_skr, q_sku, if_true, if_false, nz, show ¬ (1 : Int32) = 0 by decide, gz43, gz45, or_true, true_and]
        exact h μ1 f1 c1.2.1 (fun _ => c1.2.2) ⟨n1, by omega, c1.2.2.1⟩
  unfold q_lvl at h
  by_cases e2 : (p pos n C).1 = true
  · rw [q_bd_t e2] at h
    obtain ⟨-, g2, g3⟩ := gg
    obtain ⟨g4, g5, g6, -⟩ := g3 e2
    rw [q_bt e2]
    exact main t _ _ _ μ1 f1 ⟨st1, a1, c1 e2⟩ (by omega) g2 (by omega) (Nat.le_refl _) h
  · rw [q_bd_f e2] at h
    rw [q_bf e2]
    refine stop t _ μ1 ?_
    have := h μ1 f1 a1 (fun z => absurd z e2) m1
    rw [q_bf e2] at this; exact this
set_option maxHeartbeats 1000000 in
theorem t_compared {A : Nat → Int32} {t u d op : Nat} {p : Nat → Nat → (Nat → Int32) → Bool × Nat × Nat × (Nat → Int32)} (hA : q_by8s A t) (h50 : t ≤ 50) (hG : q_G t p) (hp : q_TC A t u (d + 1) 63 op p) : q_TC A t u (d + 2) 60 op (q_cmd A p) := by
  intro μ R pos n C hc hn ht h
  refine s60.mpr ?_
  simp only [u60_0, u60_1, u60_2, u60_5, u60_6, u60_7, u60_10, u60_12, u60_15, u60_16, u60_18, u60_21, u60_22, u60_24, u60_27, u60_28, u60_30, u60_33, u60_34, u60_37, u60_38, u60_39, u60_42, u60_43, u60_44, u60_47, u60_48, u60_49, u60_52, u60_53, ly_kd, ly_al, ly_fv0, ly_fv1, ly_fv2, ly_fv3, ly_fv4, ly_fk, ly_ra, Option.toList, List.cons_append, List.nil_append, q_ski, q_skr, q_sku, if_true, if_false]
  refine hp μ _ pos n C hc hn ht (fun μ1 f1 a1 c1 m1 => ?_)
  have st1 := q_st_cf hc.1 f1
  have gg := hG pos n C hn ht
  simp only [u60_0, u60_1, u60_2, u60_5, u60_6, u60_7, u60_10, u60_12, u60_15, u60_16, u60_18, u60_21, u60_22, u60_24, u60_27, u60_28, u60_30, u60_33, u60_34, u60_37, u60_38, u60_39, u60_42, u60_43, u60_44, u60_47, u60_48, u60_49, u60_52, u60_53, ly_kd, ly_al, ly_fv0, ly_fv1, ly_fv2, ly_fv3, ly_fv4, ly_fk, ly_ra, Option.toList, List.cons_append, List.nil_append, q_ski, q_skr, q_sku, if_true, if_false, t_ahead hA h50 st1 a1 gg.2.1]
  unfold q_cmd at h
  refine (u60_11).mpr ?_
  by_cases e1 : (p pos n C).1 = true
  · rw [q_bd_t e1] at h
    obtain ⟨-, g2, g3⟩ := gg
    obtain ⟨g4, g5, g6, -⟩ := g3 e1
    rw [q_bt e1]
    have c1 : q_cs A t u (p pos n C).2.1 (p pos n C).2.2.1 (p pos n C).2.2.2 μ1 := ⟨st1, a1, c1 e1⟩
    have hn1 : (p pos n C).2.2.1 ≤ (p pos n C).2.1 := by omega
    generalize (p pos n C).2.1 = p1 at *
    generalize (p pos n C).2.2.1 = n1 at *
    generalize (p pos n C).2.2.2 = C1 at *
    by_cases g : q_s2 (A p1) = true
    · rw [if_pos g] at h
      obtain ⟨sg1, sg2, -⟩ := q_sgn2 _ g
      have gz : A p1 = 60 ∨ A p1 = 61 ∨ A p1 = 62 := q_s2i g
      have pt := q_in_t hA sg1
      have body : gc_W (gc_S (d+1)) cX2_readCompared 2 1 R 33 [.ref 27, .int (nI op), .int 1, .int (A p1)] [] μ1 := by
        refine (u60_33).mpr ?_
        simp only [u60_0, u60_1, u60_2, u60_5, u60_6, u60_7, u60_10, u60_11, u60_12, u60_15, u60_16, u60_18, u60_21, u60_22, u60_24, u60_27, u60_28, u60_30, u60_34, u60_37, u60_38, u60_39, u60_42, u60_43, u60_44, u60_47, u60_48, u60_49, u60_52, u60_53, ly_kd, ly_al, ly_fv0, ly_fv1, ly_fv2, ly_fv3, ly_fv4, ly_fk, ly_ra, Option.toList, List.cons_append, List.nil_append, q_ski, q_skr, q_sku, if_true, if_false, t_pass c1.2.1]
        have gg := hG (p1 + 1) n1 C1 (by omega) (by omega)
        refine hp _ _ (p1 + 1) n1 C1 (q_cs_pass c1) (by omega) (by omega) (fun μ2 f2 a2 c2 m2 => ?_)
        obtain ⟨m, mm, me⟩ := m2
        have fa := f1.tr (q_cf_pass.tr f2)
        have st2 := q_st_cf hc.1 fa
        by_cases e2 : (p (p1 + 1) n1 C1).1 = true
        · rw [q_bd_t e2] at h
          obtain ⟨c2a, c2b⟩ := c2 e2
          obtain ⟨-, g2, g3⟩ := gg
          obtain ⟨g4, g5, g6, -⟩ := g3 e2
          simp only [u60_0, u60_1, u60_2, u60_5, u60_6, u60_7, u60_10, u60_11, u60_12, u60_15, u60_16, u60_18, u60_21, u60_22, u60_24, u60_27, u60_28, u60_30, u60_34, u60_37, u60_38, u60_39, u60_42, u60_43, u60_44, u60_47, u60_48, u60_49, u60_52, u60_53, ly_kd, ly_al, ly_fv0, ly_fv1, ly_fv2, ly_fv3, ly_fv4, ly_fk, ly_ra, Option.toList, List.cons_append, List.nil_append, q_ski, q_skr, q_sku, if_true, if_false, q_bt e2]
          refine t_add28 (show (p (p1 + 1) n1 C1).2.2.1 ≤ 50 by omega) c2a (fun μ3 f3 e27 a3 m3 => ?_)
          have e274 : μ3 27 4 = nI (p (p1 + 1) n1 C1).2.1 := by rw [e27]; exact a2
          simp only [u60_0, u60_1, u60_2, u60_5, u60_6, u60_7, u60_10, u60_11, u60_12, u60_15, u60_16, u60_18, u60_21, u60_22, u60_24, u60_27, u60_28, u60_30, u60_34, u60_37, u60_38, u60_39, u60_42, u60_43, u60_44, u60_47, u60_48, u60_49, u60_52, u60_53, ly_kd, ly_al, ly_fv0, ly_fv1, ly_fv2, ly_fv3, ly_fv4, ly_fk, ly_ra, Option.toList, List.cons_append, List.nil_append, q_ski, q_skr, q_sku, if_true, if_false, or_true, true_and]
          have := a3 (by omega)
          have cs := q_cs_add (z := 20000 + A p1) st2 f3 e274 ⟨this.1, this.2.1, this.2.2.trans sg2.symm⟩ c2b
          exact h μ3 (fa.tr f3) e274 (fun _ => cs.2.2) m3
        · rw [q_bd_f e2] at h
          simp only [u60_0, u60_1, u60_2, u60_5, u60_6, u60_7, u60_10, u60_11, u60_12, u60_15, u60_16, u60_18, u60_21, u60_22, u60_24, u60_27, u60_28, u60_30, u60_34, u60_37, u60_38, u60_39, u60_42, u60_43, u60_44, u60_47, u60_48, u60_49, u60_52, u60_53, ly_kd, ly_al, ly_fv0, ly_fv1, ly_fv2, ly_fv3, ly_fv4, ly_fk, ly_ra, Option.toList, List.cons_append, List.nil_append, q_ski, q_skr, q_sku, if_true, if_false, q_bf e2]
          refine t_add28 mm me (fun μ3 f3 e27 a3 m3 => ?_)
          have e274 : μ3 27 4 = nI (p (p1 + 1) n1 C1).2.1 := by rw [e27]; exact a2
          simp only [u60_0, u60_1, u60_2, u60_5, u60_6, u60_7, u60_10, u60_11, u60_12, u60_15, u60_16, u60_18, u60_21, u60_22, u60_24, u60_27, u60_28, u60_30, u60_34, u60_37, u60_38, u60_39, u60_42, u60_43, u60_44, u60_47, u60_48, u60_49, u60_52, u60_53, ly_kd, ly_al, ly_fv0, ly_fv1, ly_fv2, ly_fv3, ly_fv4, ly_fk, ly_ra, Option.toList, List.cons_append, List.nil_append, q_ski, q_skr, q_sku, if_true, if_false, true_or, true_and]
          have := h μ3 (fa.tr f3) e274 (fun z => absurd z e2) m3
          rw [q_bf e2] at this; exact this
      rcases gz with gz | gz | gz
      · simp only [u60_0, u60_1, u60_2, u60_5, u60_6, u60_7, u60_10, u60_11, u60_12, u60_15, u60_16, u60_18, u60_21, u60_22, u60_24, u60_27, u60_28, u60_30, u60_34, u60_37, u60_38, u60_39, u60_42, u60_43, u60_44, u60_47, u60_48, u60_49, u60_52, u60_53, ly_kd, ly_al, ly_fv0, ly_fv1, ly_fv2, ly_fv3, ly_fv4, ly_fk, ly_ra, Option.toList, List.cons_append, List.nil_append, q_ski, q_skr, q_sku, if_true, if_false, show ¬ (1 : Int32) = 0 by decide, gz, show ¬ (60 : Int32) = 61 by decide, show ¬ (60 : Int32) = 62 by decide]
        rw [← gz]; exact body
      · simp only [u60_0, u60_1, u60_2, u60_5, u60_6, u60_7, u60_10, u60_11, u60_12, u60_15, u60_16, u60_18, u60_21, u60_22, u60_24, u60_27, u60_28, u60_30, u60_34, u60_37, u60_38, u60_39, u60_42, u60_43, u60_44, u60_47, u60_48, u60_49, u60_52, u60_53, ly_kd, ly_al, ly_fv0, ly_fv1, ly_fv2, ly_fv3, ly_fv4, ly_fk, ly_ra, Option.toList, List.cons_append, List.nil_append, q_ski, q_skr, q_sku, if_true, if_false, show ¬ (1 : Int32) = 0 by decide, gz, show ¬ (61 : Int32) = 60 by decide, show ¬ (61 : Int32) = 62 by decide]
        rw [← gz]; exact body
      · simp only [u60_0, u60_1, u60_2, u60_5, u60_6, u60_7, u60_10, u60_11, u60_12, u60_15, u60_16, u60_18, u60_21, u60_22, u60_24, u60_27, u60_28, u60_30, u60_34, u60_37, u60_38, u60_39, u60_42, u60_43, u60_44, u60_47, u60_48, u60_49, u60_52, u60_53, ly_kd, ly_al, ly_fv0, ly_fv1, ly_fv2, ly_fv3, ly_fv4, ly_fk, ly_ra, Option.toList, List.cons_append, List.nil_append, q_ski, q_skr, q_sku, if_true, if_false, show ¬ (1 : Int32) = 0 by decide, gz, show ¬ (62 : Int32) = 60 by decide, show ¬ (62 : Int32) = 61 by decide]
        rw [← gz]; exact body
    · rw [if_neg g] at h
      have gz60 : ¬ A p1 = 60 := fun z => g (by unfold q_s2; rw [z]; rfl)
      have gz61 : ¬ A p1 = 61 := fun z => g (by unfold q_s2; rw [z]; rfl)
      have gz62 : ¬ A p1 = 62 := fun z => g (by unfold q_s2; rw [z]; rfl)
      simp only [u60_0, u60_1, u60_2, u60_5, u60_6, u60_7, u60_10, u60_11, u60_12, u60_15, u60_16, u60_18, u60_21, u60_22, u60_24, u60_27, u60_28, u60_30, u60_34, u60_37, u60_38, u60_39, u60_42, u60_43, u60_44, u60_47, u60_48, u60_49, u60_52, u60_53, ly_kd, ly_al, ly_fv0, ly_fv1, ly_fv2, ly_fv3, ly_fv4, ly_fk, ly_ra, Option.toList, List.cons_append, List.nil_append, q_ski, q_skr, q_sku, if_true, if_false, show ¬ (1 : Int32) = 0 by decide, gz60, gz61, gz62, or_true, true_and]
      exact h μ1 f1 c1.2.1 (fun _ => c1.2.2) ⟨n1, by omega, c1.2.2.1⟩
  · rw [q_bd_f e1] at h
    have := h μ1 f1 a1 (fun z => absurd z e1) m1
    rw [q_bf e1] at this ⊢
    simp only [u60_0, u60_1, u60_2, u60_5, u60_6, u60_7, u60_10, u60_11, u60_12, u60_15, u60_16, u60_18, u60_21, u60_22, u60_24, u60_27, u60_28, u60_30, u60_34, u60_37, u60_38, u60_39, u60_42, u60_43, u60_44, u60_47, u60_48, u60_49, u60_52, u60_53, ly_kd, ly_al, ly_fv0, ly_fv1, ly_fv2, ly_fv3, ly_fv4, ly_fk, ly_ra, Option.toList, List.cons_append, List.nil_append, q_ski, q_skr, q_sku, if_true, if_false, true_or, true_and]
    exact this
