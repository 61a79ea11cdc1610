/-! texts that are read: the reference -/
def q_mt (A : Nat → Int32) (t u : Nat) (μ : gM) : Prop := μ 83 5 = nI 197 ∧ μ 83 7 = nI t ∧ μ 83 10 = nI u ∧ ∀ j, j < t → μ 84 (197 + j) = A j
def q_ms (A : Nat → Int32) (t u op pos n : Nat) (C : Nat → Int32) (μ : gM) : Prop := q_mt A t u μ ∧ μ 83 9 = nI op ∧ μ 83 8 = -1 ∧ μ 83 6 = nI pos ∧ μ 83 13 = nI n ∧ ∀ j, j < n → μ 89 j = C j
def q_mf (μ μ' : gM) : Prop := (∀ o, o ≠ 83 → o ≠ 89 → μ' o = μ o) ∧ ∀ j, j ≠ 6 → j ≠ 8 → j ≠ 9 → j ≠ 13 → μ' 83 j = μ 83 j
theorem q_mf.rf {μ : gM} : q_mf μ μ := ⟨fun _ _ _ => rfl, fun _ _ _ _ _ => rfl⟩
theorem q_mf.tr {μ μ1 μ2 : gM} (h : q_mf μ μ1) (h2 : q_mf μ1 μ2) : q_mf μ μ2 := ⟨fun o a b => (h2.1 o a b).trans (h.1 o a b), fun j a b c d => (h2.2 j a b c d).trans (h.2 j a b c d)⟩
theorem q_mt_mf {A : Nat → Int32} {t u : Nat} {μ μ' : gM} (h : q_mt A t u μ) (f : q_mf μ μ') : q_mt A t u μ' := by
  obtain ⟨h1, h2, h3, h4⟩ := h
  refine ⟨by rw [f.2 5 (by omega) (by omega) (by omega) (by omega)]; exact h1, by rw [f.2 7 (by omega) (by omega) (by omega) (by omega)]; exact h2, by rw [f.2 10 (by omega) (by omega) (by omega) (by omega)]; exact h3, fun j hj => ?_⟩
  rw [f.1 84 (by omega) (by omega)]; exact h4 j hj
theorem q_m1 : ¬ (0 : Int32) ≤ -1 := by decide
theorem m_here {d : Nat} {R : gR} {μ : gM} {A : Nat → Int32} {t u op pos n : Nat} {C : Nat → Int32} (hA : q_by8s A t) (h50 : t ≤ 50) (h : q_ms A t u op pos n C μ) (hpt : pos ≤ t) : gc_S (d + 1) 153 [.ref 83] μ R ↔ R (some (.int (A pos))) μ := by
  obtain ⟨⟨h1, h2, h3, h4⟩, h5, h6, h7, -⟩ := h
  by_cases g : pos < t
  · simp only [s153, u153_0, u153_1, u153_4, u153_5, u153_8, u153_11, u153_12, u153_15, u153_18, u153_19, u153_22, u153_23, u153_26, u153_27, u153_30, u153_31, u153_32, u153_35, u153_36, ly_kd, ly_al, ly_fv0, ly_fv1, ly_fv2, ly_fv3, ly_fv4, ly_fk, ly_ra, Option.toList, List.cons_append, List.nil_append, q_ski, q_skr, q_sku, if_true, if_false, h1, h2, h6, h7, show ¬ nI t ≤ nI pos from nI_ge g (by omega), q_m1, nI_add, vp_in_nI (show 197 + pos < 247 by omega) (by decide), nI_clamp (show 197 + pos < 2 ^ 31 by omega), true_and, h4 pos g]
  · obtain rfl : pos = t := by omega
    simp only [s153, u153_0, u153_1, u153_4, u153_5, u153_8, u153_11, u153_12, u153_15, u153_18, u153_19, u153_22, u153_23, u153_26, u153_27, u153_30, u153_31, u153_32, u153_35, u153_36, ly_kd, ly_al, ly_fv0, ly_fv1, ly_fv2, ly_fv3, ly_fv4, ly_fk, ly_ra, Option.toList, List.cons_append, List.nil_append, q_ski, q_skr, q_sku, if_true, if_false, h2, h7, show nI pos ≤ nI pos from Int32.le_refl _, hA.2 pos (Nat.le_refl _)]
theorem m_hereF {d : Nat} {R : gR} {μ : gM} {f : Nat} (hf : f < 100) (h : μ 83 8 = nI f) : gc_S (d + 1) 153 [.ref 83] μ R ↔ R (some (.int (-1))) μ := by
  simp only [s153, u153_0, u153_1, u153_4, u153_5, u153_8, u153_11, u153_12, u153_15, u153_18, u153_19, u153_22, u153_23, u153_26, u153_27, u153_30, u153_31, u153_32, u153_35, u153_36, ly_kd, ly_al, ly_fv0, ly_fv1, ly_fv2, ly_fv3, ly_fv4, ly_fk, ly_ra, Option.toList, List.cons_append, List.nil_append, q_ski, q_skr, q_sku, if_true, if_false, h, show 0 ≤ nI f from nI_pos' (by omega), ite_self]
theorem m_wrong {d : Nat} {R : gR} {μ : gM} {pos : Nat} (h8 : μ 83 8 = -1) (h6 : μ 83 6 = nI pos) : gc_S (d + 1) 154 [.ref 83] μ R ↔ R none (gc_up μ 83 8 (nI pos)) := by
  simp only [s154, u154_0, u154_1, u154_2, u154_5, u154_8, u154_9, u154_12, u154_15, u154_16, u154_19, u154_22, ly_kd, ly_al, ly_fv0, ly_fv1, ly_fv2, ly_fv3, ly_fv4, ly_fk, ly_ra, Option.toList, List.cons_append, List.nil_append, q_ski, q_skr, q_sku, if_true, if_false, h8, h6, q_m1]
theorem m_wrongF {d : Nat} {R : gR} {μ : gM} {f : Nat} (hf : f < 100) (h : μ 83 8 = nI f) : gc_S (d + 1) 154 [.ref 83] μ R ↔ R none (gc_up μ 83 8 (nI f)) := by
  simp only [s154, u154_0, u154_1, u154_2, u154_5, u154_8, u154_9, u154_12, u154_15, u154_16, u154_19, u154_22, ly_kd, ly_al, ly_fv0, ly_fv1, ly_fv2, ly_fv3, ly_fv4, ly_fk, ly_ra, Option.toList, List.cons_append, List.nil_append, q_ski, q_skr, q_sku, if_true, if_false, h, show 0 ≤ nI f from nI_pos' (by omega)]
theorem m_lay {d : Nat} {R : gR} {μ : gM} {n : Nat} {v : Int32} (h8 : μ 83 8 = -1) (h13 : μ 83 13 = nI n) (hn : n < 60) : gc_S (d + 1) 157 [.ref 83, .int v] μ R ↔ R none (gc_up (gc_up μ 89 n v) 83 13 (nI (n + 1))) := by
  have e : gc_up μ 89 n v 83 13 = nI n := by rw [q_up_o (by omega), h13]
  simp only [s157, u157_0, u157_1, u157_4, u157_7, u157_8, u157_11, u157_12, u157_15, u157_16, u157_17, u157_18, u157_19, u157_22, u157_23, u157_24, u157_27, ly_kd, ly_al, ly_fv0, ly_fv1, ly_fv2, ly_fv3, ly_fv4, ly_fk, ly_ra, Option.toList, List.cons_append, List.nil_append, q_ski, q_skr, q_sku, if_true, if_false, h8, h13, q_m1, vp_in_nI hn (by decide), nI_clamp (show n < 2 ^ 31 by omega), true_and, e, nI_1]
theorem m_layF {d : Nat} {R : gR} {μ : gM} {f : Nat} {v : Int32} (hf : f < 100) (h : μ 83 8 = nI f) : gc_S (d + 1) 157 [.ref 83, .int v] μ R ↔ R none μ := by
  simp only [s157, u157_0, u157_1, u157_4, u157_7, u157_8, u157_11, u157_12, u157_15, u157_16, u157_17, u157_18, u157_19, u157_22, u157_23, u157_24, u157_27, ly_kd, ly_al, ly_fv0, ly_fv1, ly_fv2, ly_fv3, ly_fv4, ly_fk, ly_ra, Option.toList, List.cons_append, List.nil_append, q_ski, q_skr, q_sku, if_true, if_false, h, show 0 ≤ nI f from nI_pos' (by omega)]
theorem m_takesY {d : Nat} {R : gR} {μ : gM} {A : Nat → Int32} {t u op pos n : Nat} {C : Nat → Int32} {c : Int32} (hA : q_by8s A t) (h50 : t ≤ 50) (h : q_ms A t u op pos n C μ) (hpt : pos ≤ t) (e : A pos = c) : gc_S (d + 2) 155 [.ref 83, .int c] μ R ↔ R (some (.int 1)) (gc_up μ 83 6 (nI (pos + 1))) := by
  simp only [s155, u155_0, u155_1, u155_4, u155_5, u155_8, u155_9, u155_10, u155_11, u155_12, u155_15, u155_16, u155_17, u155_20, u155_21, ly_kd, ly_al, ly_fv0, ly_fv1, ly_fv2, ly_fv3, ly_fv4, ly_fk, ly_ra, Option.toList, List.cons_append, List.nil_append, q_ski, q_skr, q_sku, if_true, if_false, m_here hA h50 h hpt, e, h.2.2.2.1, nI_1, or_true, true_and]
theorem m_takesN {d : Nat} {R : gR} {μ : gM} {A : Nat → Int32} {t u op pos n : Nat} {C : Nat → Int32} {c : Int32} (hA : q_by8s A t) (h50 : t ≤ 50) (h : q_ms A t u op pos n C μ) (hpt : pos ≤ t) (e : ¬ A pos = c) : gc_S (d + 2) 155 [.ref 83, .int c] μ R ↔ R (some (.int 0)) μ := by
  simp only [s155, u155_0, u155_1, u155_4, u155_5, u155_8, u155_9, u155_10, u155_11, u155_12, u155_15, u155_16, u155_17, u155_20, u155_21, ly_kd, ly_al, ly_fv0, ly_fv1, ly_fv2, ly_fv3, ly_fv4, ly_fk, ly_ra, Option.toList, List.cons_append, List.nil_append, q_ski, q_skr, q_sku, if_true, if_false, m_here hA h50 h hpt, e, if_false, true_or, true_and]
theorem m_takesF {d : Nat} {R : gR} {μ : gM} {f : Nat} {c : Int32} (hf : f < 100) (h : μ 83 8 = nI f) (hc : ¬ (-1) = c) : gc_S (d + 2) 155 [.ref 83, .int c] μ R ↔ R (some (.int 0)) μ := by
  simp only [s155, u155_0, u155_1, u155_4, u155_5, u155_8, u155_9, u155_10, u155_11, u155_12, u155_15, u155_16, u155_17, u155_20, u155_21, ly_kd, ly_al, ly_fv0, ly_fv1, ly_fv2, ly_fv3, ly_fv4, ly_fk, ly_ra, Option.toList, List.cons_append, List.nil_append, q_ski, q_skr, q_sku, if_true, if_false, m_hereF hf h, hc, if_false, true_or, true_and]
theorem q_mf_pass {μ : gM} {x : Int32} : q_mf μ (gc_up μ 83 6 x) := ⟨fun o a _ => gc_up_ne a, fun j a _ _ _ => q_up_j a⟩
theorem q_mf_8 {μ : gM} {x : Int32} : q_mf μ (gc_up μ 83 8 x) := ⟨fun o a _ => gc_up_ne a, fun j _ a _ _ => q_up_j a⟩
theorem q_mf_9 {μ : gM} {x : Int32} : q_mf μ (gc_up μ 83 9 x) := ⟨fun o a _ => gc_up_ne a, fun j _ _ a _ => q_up_j a⟩
theorem q_ms_pass {A : Nat → Int32} {t u op pos n : Nat} {C : Nat → Int32} {μ : gM} (h : q_ms A t u op pos n C μ) : q_ms A t u op (pos + 1) n C (gc_up μ 83 6 (nI (pos + 1))) := ⟨q_mt_mf h.1 q_mf_pass, by rw [q_up_j (by omega)]; exact h.2.1, by rw [q_up_j (by omega)]; exact h.2.2.1, q_up_same, by rw [q_up_j (by omega)]; exact h.2.2.2.2.1, fun j hj => by rw [q_up_o (by omega)]; exact h.2.2.2.2.2 j hj⟩
theorem q_ms_lay {A : Nat → Int32} {t u op pos n : Nat} {C : Nat → Int32} {μ : gM} {z : Int32} (h : q_ms A t u op pos n C μ) : q_ms A t u op pos (n + 1) (upd C n z) (gc_up (gc_up μ 89 n z) 83 13 (nI (n + 1))) ∧ q_mf μ (gc_up (gc_up μ 89 n z) 83 13 (nI (n + 1))) := by
  have f : q_mf μ (gc_up (gc_up μ 89 n z) 83 13 (nI (n + 1))) := ⟨fun o a b => by rw [gc_up_ne a, gc_up_ne b], fun j _ _ _ a => by rw [q_up_j a, q_up_o (by omega)]⟩
  refine ⟨⟨q_mt_mf h.1 f, by rw [q_up_j (by omega), q_up_o (by omega)]; exact h.2.1, by rw [q_up_j (by omega), q_up_o (by omega)]; exact h.2.2.1, by rw [q_up_j (by omega), q_up_o (by omega)]; exact h.2.2.2.1, q_up_same, fun j hj => ?_⟩, f⟩
  rw [q_up_o (by omega)]
  by_cases e : j = n
  · subst e; rw [q_up_same]; exact (if_pos rfl).symm
  · rw [q_up_j e, h.2.2.2.2.2 j (by omega)]; exact (if_neg e).symm
/-- what a reading that ends with r has left -/
def q_mo (A : Nat → Int32) (t u op : Nat) (μ : gM) (r : Bool × Nat × Nat × (Nat → Int32)) (R : gR) : Prop := ∀ μ', q_mf μ μ' → (r.1 = true → q_ms A t u op r.2.1 r.2.2.1 r.2.2.2 μ') → (¬ r.1 = true → μ' 83 8 = nI r.2.1 ∧ μ' 83 9 = nI op) → R none μ'
def q_TM (A : Nat → Int32) (t u dep M op : Nat) (p : Nat → Nat → (Nat → Int32) → Bool × Nat × Nat × (Nat → Int32)) : Prop := ∀ (μ : gM) (R : gR) (pos n : Nat) (C : Nat → Int32), q_ms A t u op pos n C μ → n ≤ pos → pos ≤ t → q_mo A t u op μ (p pos n C) R → gc_S dep M [.ref 83] μ R
set_option maxHeartbeats 1000000 in
theorem m_either {A : Nat → Int32} {t u d op : Nat} {p : Nat → Nat → (Nat → Int32) → Bool × Nat × Nat × (Nat → Int32)} (hA : q_by8s A t) (h50 : t ≤ 50) (hG : q_G t p) (hp : q_TM A t u (d + 2) 158 op p) : q_TM A t u (d + 3) 160 op (q_lvl A t q_s4 p) := by
  intro μ R pos n C hc hn ht h
  refine s160.mpr ?_
  simp only [u160_0, u160_1, u160_5, u160_7, u160_10, u160_13, u160_14, u160_17, u160_18, u160_21, u160_24, u160_27, ly_kd, ly_al, ly_fv0, ly_fv1, ly_fv2, ly_fv3, ly_fv4, ly_fk, ly_ra, Option.toList, List.cons_append, List.nil_append, q_ski, q_skr, q_sku, if_true, if_false]
  refine hp μ _ pos n C hc hn ht (fun μ1 f1 a1 b1 => ?_)
  have gg := hG pos n C hn ht
  simp only [u160_0, u160_1, u160_5, u160_7, u160_10, u160_13, u160_14, u160_17, u160_18, u160_21, u160_24, u160_27, ly_kd, ly_al, ly_fv0, ly_fv1, ly_fv2, ly_fv3, ly_fv4, ly_fk, ly_ra, Option.toList, List.cons_append, List.nil_append, q_ski, q_skr, q_sku, if_true, if_false]
  have stop : ∀ (f : Nat) (μ2 : gM), f < 100 → μ2 83 8 = nI f → R none μ2 → gc_W (gc_S (d+2)) cX12_either 12 2 R 4 [.ref 83] [] μ2 := fun f μ2 hf h8 h2 => by
    refine (u160_4).mpr ?_
    simp only [u160_0, u160_1, u160_5, u160_7, u160_10, u160_13, u160_14, u160_17, u160_18, u160_21, u160_24, u160_27, ly_kd, ly_al, ly_fv0, ly_fv1, ly_fv2, ly_fv3, ly_fv4, ly_fk, ly_ra, Option.toList, List.cons_append, List.nil_append, q_ski, q_skr, q_sku, if_true, if_false, m_takesF hf h8 (show ¬ (-1 : Int32) = 124 by decide)]
    exact h2
  have main : ∀ f p1 n1 C1 μ1, q_mf μ μ1 → q_ms A t u op p1 n1 C1 μ1 → n1 ≤ p1 → p1 ≤ t → t ≤ f + p1 → q_mo A t u op μ (q_lop A q_s4 p f p1 n1 C1) R → gc_W (gc_S (d+2)) cX12_either 12 2 R 4 [.ref 83] [] μ1 := by
    intro f
    induction f with
    | zero =>
      intro p1 n1 C1 μ1 f1 c1 hn1 hp1 hf h
      have g : ¬ A p1 = 124 := by rw [hA.2 p1 (by omega)]; decide
      refine (u160_4).mpr ?_
      simp only [u160_0, u160_1, u160_5, u160_7, u160_10, u160_13, u160_14, u160_17, u160_18, u160_21, u160_24, u160_27, ly_kd, ly_al, ly_fv0, ly_fv1, ly_fv2, ly_fv3, ly_fv4, ly_fk, ly_ra, Option.toList, List.cons_append, List.nil_append, q_ski, q_skr, q_sku, if_true, if_false, m_takesN hA h50 c1 hp1 g]
      exact h μ1 f1 (fun _ => c1) (fun z => absurd rfl z)
    | succ f ih =>
      intro p1 n1 C1 μ1 f1 c1 hn1 hp1 hf h
      have e : q_lop A q_s4 p (f + 1) p1 n1 C1 = if q_s4 (A p1) = true then q_bd (p (p1 + 1) n1 C1) (fun p2 n2 C2 => q_lop A q_s4 p f p2 (n2 + 1) (upd C2 n2 (20000 + A p1))) else (true, p1, n1, C1) := rfl
      rw [e] at h
      refine (u160_4).mpr ?_
      by_cases g : q_s4 (A p1) = true
      · rw [if_pos g] at h
        have gz : A p1 = 124 := by unfold q_s4 at g; exact of_decide_eq_true g
        have pt := q_in_t hA (by rw [gz]; decide)
        rw [gz] at h
        simp only [u160_0, u160_1, u160_5, u160_7, u160_10, u160_13, u160_14, u160_17, u160_18, u160_21, u160_24, u160_27, ly_kd, ly_al, ly_fv0, ly_fv1, ly_fv2, ly_fv3, ly_fv4, ly_fk, ly_ra, Option.toList, List.cons_append, List.nil_append, q_ski, q_skr, q_sku, if_true, if_false, m_takesY hA h50 c1 hp1 gz, show ¬ (1 : Int32) = 0 by decide]
        have gg := hG (p1 + 1) n1 C1 (by omega) (by omega)
        refine hp _ _ (p1 + 1) n1 C1 (q_ms_pass c1) (by omega) (by omega) (fun μ2 f2 a2 b2 => ?_)
        have fa := f1.tr (q_mf_pass.tr f2)
        obtain ⟨g1, g2, g3⟩ := gg
        by_cases e2 : (p (p1 + 1) n1 C1).1 = true
        · rw [q_bd_t e2] at h
          obtain ⟨g4, g5, g6, -⟩ := g3 e2
          have c2 := a2 e2
          obtain ⟨c3, f3⟩ := q_ms_lay (z := 20000 + 124) c2
          simp only [u160_0, u160_1, u160_5, u160_7, u160_10, u160_13, u160_14, u160_17, u160_18, u160_21, u160_24, u160_27, ly_kd, ly_al, ly_fv0, ly_fv1, ly_fv2, ly_fv3, ly_fv4, ly_fk, ly_ra, Option.toList, List.cons_append, List.nil_append, q_ski, q_skr, q_sku, if_true, if_false, m_lay c2.2.2.1 c2.2.2.2.2.1 (show (p (p1 + 1) n1 C1).2.2.1 < 60 by omega)]
          exact ih _ _ _ _ (fa.tr f3) c3 (by omega) g2 (by omega) h
        · rw [q_bd_f e2] at h
          simp only [u160_0, u160_1, u160_5, u160_7, u160_10, u160_13, u160_14, u160_17, u160_18, u160_21, u160_24, u160_27, ly_kd, ly_al, ly_fv0, ly_fv1, ly_fv2, ly_fv3, ly_fv4, ly_fk, ly_ra, Option.toList, List.cons_append, List.nil_append, q_ski, q_skr, q_sku, if_true, if_false, m_layF (show (p (p1 + 1) n1 C1).2.1 < 100 by omega) (b2 e2).1]
          exact stop _ _ (by omega) (b2 e2).1 (h _ fa a2 b2)
      · rw [if_neg g] at h
        have gz : ¬ A p1 = 124 := fun z => g (by unfold q_s4; exact decide_eq_true z)
        simp only [u160_0, u160_1, u160_5, u160_7, u160_10, u160_13, u160_14, u160_17, u160_18, u160_21, u160_24, u160_27, ly_kd, ly_al, ly_fv0, ly_fv1, ly_fv2, ly_fv3, ly_fv4, ly_fk, ly_ra, Option.toList, List.cons_append, List.nil_append, q_ski, q_skr, q_sku, if_true, if_false, m_takesN hA h50 c1 hp1 gz]
        exact h μ1 f1 (fun _ => c1) (fun z => absurd rfl z)
  unfold q_lvl at h
  by_cases e2 : (p pos n C).1 = true
  · rw [q_bd_t e2] at h
    obtain ⟨-, g2, g3⟩ := gg
    obtain ⟨g4, g5, g6, -⟩ := g3 e2
    exact main t _ _ _ μ1 f1 (a1 e2) (by omega) g2 (by omega) h
  · rw [q_bd_f e2] at h
    have gg2 := gg.2.1
    exact stop _ μ1 (by omega) (b1 e2).1 (h μ1 f1 a1 b1)
set_option maxHeartbeats 1000000 in
theorem m_both {A : Nat → Int32} {t u d op : Nat} {p : Nat → Nat → (Nat → Int32) → Bool × Nat × Nat × (Nat → Int32)} (hA : q_by8s A t) (h50 : t ≤ 50) (hG : q_G t p) (hp : q_TM A t u (d + 2) 159 op p) : q_TM A t u (d + 3) 158 op (q_lvl A t q_s3 p) := by
  intro μ R pos n C hc hn ht h
  refine s158.mpr ?_
  simp only [u158_0, u158_1, u158_5, u158_7, u158_10, u158_13, u158_14, u158_17, u158_18, u158_21, u158_24, u158_27, ly_kd, ly_al, ly_fv0, ly_fv1, ly_fv2, ly_fv3, ly_fv4, ly_fk, ly_ra, Option.toList, List.cons_append, List.nil_append, q_ski, q_skr, q_sku, if_true, if_false]
  refine hp μ _ pos n C hc hn ht (fun μ1 f1 a1 b1 => ?_)
  have gg := hG pos n C hn ht
  simp only [u158_0, u158_1, u158_5, u158_7, u158_10, u158_13, u158_14, u158_17, u158_18, u158_21, u158_24, u158_27, ly_kd, ly_al, ly_fv0, ly_fv1, ly_fv2, ly_fv3, ly_fv4, ly_fk, ly_ra, Option.toList, List.cons_append, List.nil_append, q_ski, q_skr, q_sku, if_true, if_false]
  have stop : ∀ (f : Nat) (μ2 : gM), f < 100 → μ2 83 8 = nI f → R none μ2 → gc_W (gc_S (d+2)) cX12_both 12 2 R 4 [.ref 83] [] μ2 := fun f μ2 hf h8 h2 => by
    refine (u158_4).mpr ?_
    simp only [u158_0, u158_1, u158_5, u158_7, u158_10, u158_13, u158_14, u158_17, u158_18, u158_21, u158_24, u158_27, ly_kd, ly_al, ly_fv0, ly_fv1, ly_fv2, ly_fv3, ly_fv4, ly_fk, ly_ra, Option.toList, List.cons_append, List.nil_append, q_ski, q_skr, q_sku, if_true, if_false, m_takesF hf h8 (show ¬ (-1 : Int32) = 38 by decide)]
    exact h2
  have main : ∀ f p1 n1 C1 μ1, q_mf μ μ1 → q_ms A t u op p1 n1 C1 μ1 → n1 ≤ p1 → p1 ≤ t → t ≤ f + p1 → q_mo A t u op μ (q_lop A q_s3 p f p1 n1 C1) R → gc_W (gc_S (d+2)) cX12_both 12 2 R 4 [.ref 83] [] μ1 := by
    intro f
    induction f with
    | zero =>
      intro p1 n1 C1 μ1 f1 c1 hn1 hp1 hf h
      have g : ¬ A p1 = 38 := by rw [hA.2 p1 (by omega)]; decide
      refine (u158_4).mpr ?_
      simp only [u158_0, u158_1, u158_5, u158_7, u158_10, u158_13, u158_14, u158_17, u158_18, u158_21, u158_24, u158_27, ly_kd, ly_al, ly_fv0, ly_fv1, ly_fv2, ly_fv3, ly_fv4, ly_fk, ly_ra, Option.toList, List.cons_append, List.nil_append, q_ski, q_skr, q_sku, if_true, if_false, m_takesN hA h50 c1 hp1 g]
      exact h μ1 f1 (fun _ => c1) (fun z => absurd rfl z)
    | succ f ih =>
      intro p1 n1 C1 μ1 f1 c1 hn1 hp1 hf h
      have e : q_lop A q_s3 p (f + 1) p1 n1 C1 = if q_s3 (A p1) = true then q_bd (p (p1 + 1) n1 C1) (fun p2 n2 C2 => q_lop A q_s3 p f p2 (n2 + 1) (upd C2 n2 (20000 + A p1))) else (true, p1, n1, C1) := rfl
      rw [e] at h
      refine (u158_4).mpr ?_
      by_cases g : q_s3 (A p1) = true
      · rw [if_pos g] at h
        have gz : A p1 = 38 := by unfold q_s3 at g; exact of_decide_eq_true g
        have pt := q_in_t hA (by rw [gz]; decide)
        rw [gz] at h
        simp only [u158_0, u158_1, u158_5, u158_7, u158_10, u158_13, u158_14, u158_17, u158_18, u158_21, u158_24, u158_27, ly_kd, ly_al, ly_fv0, ly_fv1, ly_fv2, ly_fv3, ly_fv4, ly_fk, ly_ra, Option.toList, List.cons_append, List.nil_append, q_ski, q_skr, q_sku, if_true, if_false, m_takesY hA h50 c1 hp1 gz, show ¬ (1 : Int32) = 0 by decide]
        have gg := hG (p1 + 1) n1 C1 (by omega) (by omega)
        refine hp _ _ (p1 + 1) n1 C1 (q_ms_pass c1) (by omega) (by omega) (fun μ2 f2 a2 b2 => ?_)
        have fa := f1.tr (q_mf_pass.tr f2)
        obtain ⟨g1, g2, g3⟩ := gg
        by_cases e2 : (p (p1 + 1) n1 C1).1 = true
        · rw [q_bd_t e2] at h
          obtain ⟨g4, g5, g6, -⟩ := g3 e2
          have c2 := a2 e2
          obtain ⟨c3, f3⟩ := q_ms_lay (z := 20000 + 38) c2
          simp only [u158_0, u158_1, u158_5, u158_7, u158_10, u158_13, u158_14, u158_17, u158_18, u158_21, u158_24, u158_27, ly_kd, ly_al, ly_fv0, ly_fv1, ly_fv2, ly_fv3, ly_fv4, ly_fk, ly_ra, Option.toList, List.cons_append, List.nil_append, q_ski, q_skr, q_sku, if_true, if_false, m_lay c2.2.2.1 c2.2.2.2.2.1 (show (p (p1 + 1) n1 C1).2.2.1 < 60 by omega)]
          exact ih _ _ _ _ (fa.tr f3) c3 (by omega) g2 (by omega) h
        · rw [q_bd_f e2] at h
          simp only [u158_0, u158_1, u158_5, u158_7, u158_10, u158_13, u158_14, u158_17, u158_18, u158_21, u158_24, u158_27, ly_kd, ly_al, ly_fv0, ly_fv1, ly_fv2, ly_fv3, ly_fv4, ly_fk, ly_ra, Option.toList, List.cons_append, List.nil_append, q_ski, q_skr, q_sku, if_true, if_false, m_layF (show (p (p1 + 1) n1 C1).2.1 < 100 by omega) (b2 e2).1]
          exact stop _ _ (by omega) (b2 e2).1 (h _ fa a2 b2)
      · rw [if_neg g] at h
        have gz : ¬ A p1 = 38 := fun z => g (by unfold q_s3; exact decide_eq_true z)
        simp only [u158_0, u158_1, u158_5, u158_7, u158_10, u158_13, u158_14, u158_17, u158_18, u158_21, u158_24, u158_27, ly_kd, ly_al, ly_fv0, ly_fv1, ly_fv2, ly_fv3, ly_fv4, ly_fk, ly_ra, Option.toList, List.cons_append, List.nil_append, q_ski, q_skr, q_sku, if_true, if_false, m_takesN hA h50 c1 hp1 gz]
        exact h μ1 f1 (fun _ => c1) (fun z => absurd rfl z)
  unfold q_lvl at h
  by_cases e2 : (p pos n C).1 = true
  · rw [q_bd_t e2] at h
    obtain ⟨-, g2, g3⟩ := gg
    obtain ⟨g4, g5, g6, -⟩ := g3 e2
    exact main t _ _ _ μ1 f1 (a1 e2) (by omega) g2 (by omega) h
  · rw [q_bd_f e2] at h
    have gg2 := gg.2.1
    exact stop _ μ1 (by omega) (b1 e2).1 (h μ1 f1 a1 b1)
set_option maxHeartbeats 1000000 in
theorem m_product {A : Nat → Int32} {t u d op : Nat} {p : Nat → Nat → (Nat → Int32) → Bool × Nat × Nat × (Nat → Int32)} (hA : q_by8s A t) (h50 : t ≤ 50) (hG : q_G t p) (hp : q_TM A t u (d + 2) 164 op p) : q_TM A t u (d + 3) 162 op (q_lvl A t q_s0 p) := by
  intro μ R pos n C hc hn ht h
  refine s162.mpr ?_
  simp only [u162_0, u162_1, u162_5, u162_8, u162_10, u162_13, u162_14, u162_17, u162_19, u162_22, u162_23, u162_26, u162_28, u162_31, u162_32, u162_35, u162_36, u162_37, u162_38, u162_41, u162_42, u162_43, u162_46, u162_47, u162_50, u162_51, u162_54, u162_55, u162_56, u162_59, u162_62, ly_kd, ly_al, ly_fv0, ly_fv1, ly_fv2, ly_fv3, ly_fv4, ly_fk, ly_ra, Option.toList, List.cons_append, List.nil_append, q_ski, q_skr, q_sku, if_true, if_false]
  refine hp μ _ pos n C hc hn ht (fun μ1 f1 a1 b1 => ?_)
  have gg := hG pos n C hn ht
  simp only [u162_0, u162_1, u162_5, u162_8, u162_10, u162_13, u162_14, u162_17, u162_19, u162_22, u162_23, u162_26, u162_28, u162_31, u162_32, u162_35, u162_36, u162_37, u162_38, u162_41, u162_42, u162_43, u162_46, u162_47, u162_50, u162_51, u162_54, u162_55, u162_56, u162_59, u162_62, ly_kd, ly_al, ly_fv0, ly_fv1, ly_fv2, ly_fv3, ly_fv4, ly_fk, ly_ra, Option.toList, List.cons_append, List.nil_append, q_ski, q_skr, q_sku, if_true, if_false]
  have stop : ∀ (f : Nat) (μ2 : gM), f < 100 → μ2 83 8 = nI f → ∀ l1, R none μ2 → gc_W (gc_S (d+2)) cX12_product 12 2 R 4 [.ref 83, l1] [] μ2 := fun f μ2 hf h8 l1 h2 => by
    refine (u162_4).mpr ?_
    simp only [u162_0, u162_1, u162_5, u162_8, u162_10, u162_13, u162_14, u162_17, u162_19, u162_22, u162_23, u162_26, u162_28, u162_32, u162_35, u162_36, u162_37, u162_38, u162_41, u162_42, u162_43, u162_46, u162_47, u162_50, u162_51, u162_54, u162_55, u162_56, u162_59, u162_62, ly_kd, ly_al, ly_fv0, ly_fv1, ly_fv2, ly_fv3, ly_fv4, ly_fk, ly_ra, Option.toList, List.cons_append, List.nil_append, q_ski, q_skr, q_sku, if_true, if_false, m_hereF hf h8, show ¬ (-1 : Int32) = 42 by decide, show ¬ (-1 : Int32) = 47 by decide, show ¬ (-1 : Int32) = 37 by decide, if_false]
    exact h2
  have main : ∀ f p1 n1 C1 μ1, q_mf μ μ1 → q_ms A t u op p1 n1 C1 μ1 → n1 ≤ p1 → p1 ≤ t → t ≤ f + p1 → ∀ l1, gc_sk l1 = true → q_mo A t u op μ (q_lop A q_s0 p f p1 n1 C1) R → gc_W (gc_S (d+2)) cX12_product 12 2 R 4 [.ref 83, l1] [] μ1 := by
    intro f
    induction f with
    | zero =>
      intro p1 n1 C1 μ1 f1 c1 hn1 hp1 hf l1 hl1 h
      have e1 := hA.2 p1 (by omega)
      refine (u162_4).mpr ?_
      simp only [u162_0, u162_1, u162_5, u162_8, u162_10, u162_13, u162_14, u162_17, u162_19, u162_22, u162_23, u162_26, u162_28, u162_32, u162_35, u162_36, u162_37, u162_38, u162_41, u162_42, u162_43, u162_46, u162_47, u162_50, u162_51, u162_54, u162_55, u162_56, u162_59, u162_62, ly_kd, ly_al, ly_fv0, ly_fv1, ly_fv2, ly_fv3, ly_fv4, ly_fk, ly_ra, Option.toList, List.cons_append, List.nil_append, q_ski, q_skr, q_sku, if_true, if_false, m_here hA h50 c1 hp1, e1, show ¬ (-1 : Int32) = 42 by decide, show ¬ (-1 : Int32) = 47 by decide, show ¬ (-1 : Int32) = 37 by decide, if_false]
      exact h μ1 f1 (fun _ => c1) (fun z => absurd rfl z)
    | succ f ih =>
      intro p1 n1 C1 μ1 f1 c1 hn1 hp1 hf l1 hl1 h
      have e : q_lop A q_s0 p (f + 1) p1 n1 C1 = if q_s0 (A p1) = true then q_bd (p (p1 + 1) n1 C1) (fun p2 n2 C2 => q_lop A q_s0 p f p2 (n2 + 1) (upd C2 n2 (20000 + A p1))) else (true, p1, n1, C1) := rfl
      rw [e] at h
      refine (u162_4).mpr ?_
      by_cases g : q_s0 (A p1) = true
      · rw [if_pos g] at h
        obtain ⟨sg1, -⟩ := q_sgn0 _ g
        have gz : A p1 = 42 ∨ A p1 = 47 ∨ A p1 = 37 := q_s0i g
        have pt := q_in_t hA sg1
        have body : gc_W (gc_S (d+2)) cX12_product 12 2 R 31 [.ref 83, l1] [] μ1 := by
          refine (u162_31).mpr ?_
          simp only [u162_0, u162_1, u162_5, u162_8, u162_10, u162_13, u162_14, u162_17, u162_19, u162_22, u162_23, u162_26, u162_28, u162_32, u162_35, u162_36, u162_37, u162_38, u162_41, u162_42, u162_43, u162_46, u162_47, u162_50, u162_51, u162_54, u162_55, u162_56, u162_59, u162_62, ly_kd, ly_al, ly_fv0, ly_fv1, ly_fv2, ly_fv3, ly_fv4, ly_fk, ly_ra, Option.toList, List.cons_append, List.nil_append, q_ski, q_skr, q_sku, if_true, if_false, m_here hA h50 c1 hp1, hl1, c1.2.2.2.1, nI_1]
          have gg := hG (p1 + 1) n1 C1 (by omega) (by omega)
          refine hp _ _ (p1 + 1) n1 C1 (q_ms_pass c1) (by omega) (by omega) (fun μ2 f2 a2 b2 => ?_)
          have fa := f1.tr (q_mf_pass.tr f2)
          obtain ⟨g1, g2, g3⟩ := gg
          by_cases e2 : (p (p1 + 1) n1 C1).1 = true
          · rw [q_bd_t e2] at h
            obtain ⟨g4, g5, g6, -⟩ := g3 e2
            have c2 := a2 e2
            obtain ⟨c3, f3⟩ := q_ms_lay (z := 20000 + A p1) c2
            simp only [u162_0, u162_1, u162_5, u162_8, u162_10, u162_13, u162_14, u162_17, u162_19, u162_22, u162_23, u162_26, u162_28, u162_32, u162_35, u162_36, u162_37, u162_38, u162_41, u162_42, u162_43, u162_46, u162_47, u162_50, u162_51, u162_54, u162_55, u162_56, u162_59, u162_62, ly_kd, ly_al, ly_fv0, ly_fv1, ly_fv2, ly_fv3, ly_fv4, ly_fk, ly_ra, Option.toList, List.cons_append, List.nil_append, q_ski, q_skr, q_sku, if_true, if_false, m_lay c2.2.2.1 c2.2.2.2.2.1 (show (p (p1 + 1) n1 C1).2.2.1 < 60 by omega)]
            exact ih _ _ _ _ (fa.tr f3) c3 (by omega) g2 (by omega) _ q_ski h
          · rw [q_bd_f e2] at h
            simp only [u162_0, u162_1, u162_5, u162_8, u162_10, u162_13, u162_14, u162_17, u162_19, u162_22, u162_23, u162_26, u162_28, u162_32, u162_35, u162_36, u162_37, u162_38, u162_41, u162_42, u162_43, u162_46, u162_47, u162_50, u162_51, u162_54, u162_55, u162_56, u162_59, u162_62, ly_kd, ly_al, ly_fv0, ly_fv1, ly_fv2, ly_fv3, ly_fv4, ly_fk, ly_ra, Option.toList, List.cons_append, List.nil_append, q_ski, q_skr, q_sku, if_true, if_false, m_layF (show (p (p1 + 1) n1 C1).2.1 < 100 by omega) (b2 e2).1]
            exact stop _ _ (by omega) (b2 e2).1 _ (h _ fa a2 b2)
        rcases gz with gz | gz | gz
        · have hh := fun (d : Nat) (R : gR) => m_here (d := d) (R := R) hA h50 c1 hp1
          rw [gz] at hh
          simp only [u162_0, u162_1, u162_5, u162_8, u162_10, u162_13, u162_14, u162_17, u162_19, u162_22, u162_23, u162_26, u162_28, u162_32, u162_35, u162_36, u162_37, u162_38, u162_41, u162_42, u162_43, u162_46, u162_47, u162_50, u162_51, u162_54, u162_55, u162_56, u162_59, u162_62, ly_kd, ly_al, ly_fv0, ly_fv1, ly_fv2, ly_fv3, ly_fv4, ly_fk, ly_ra, Option.toList, List.cons_append, List.nil_append, q_ski, q_skr, q_sku, if_true, if_false, hh, show ¬ (42 : Int32) = 47 by decide, show ¬ (42 : Int32) = 37 by decide]
          exact body
        · have hh := fun (d : Nat) (R : gR) => m_here (d := d) (R := R) hA h50 c1 hp1
          rw [gz] at hh
          simp only [u162_0, u162_1, u162_5, u162_8, u162_10, u162_13, u162_14, u162_17, u162_19, u162_22, u162_23, u162_26, u162_28, u162_32, u162_35, u162_36, u162_37, u162_38, u162_41, u162_42, u162_43, u162_46, u162_47, u162_50, u162_51, u162_54, u162_55, u162_56, u162_59, u162_62, ly_kd, ly_al, ly_fv0, ly_fv1, ly_fv2, ly_fv3, ly_fv4, ly_fk, ly_ra, Option.toList, List.cons_append, List.nil_append, q_ski, q_skr, q_sku, if_true, if_false, hh, show ¬ (47 : Int32) = 42 by decide, show ¬ (47 : Int32) = 37 by decide]
          exact body
        · have hh := fun (d : Nat) (R : gR) => m_here (d := d) (R := R) hA h50 c1 hp1
          rw [gz] at hh
          simp only [u162_0, u162_1, u162_5, u162_8, u162_10, u162_13, u162_14, u162_17, u162_19, u162_22, u162_23, u162_26, u162_28, u162_32, u162_35, u162_36, u162_37, u162_38, u162_41, u162_42, u162_43, u162_46, u162_47, u162_50, u162_51, u162_54, u162_55, u162_56, u162_59, u162_62, ly_kd, ly_al, ly_fv0, ly_fv1, ly_fv2, ly_fv3, ly_fv4, ly_fk, ly_ra, Option.toList, List.cons_append, List.nil_append, q_ski, q_skr, q_sku, if_true, if_false, hh, show ¬ (37 : Int32) = 42 by decide, show ¬ (37 : Int32) = 47 by decide]
          exact body
      · rw [if_neg g] at h
        have gz42 : ¬ A p1 = 42 := fun z => g (by unfold q_s0; rw [z]; rfl)
        have gz47 : ¬ A p1 = 47 := fun z => g (by unfold q_s0; rw [z]; rfl)
        have gz37 : ¬ A p1 = 37 := fun z => g (by unfold q_s0; rw [z]; rfl)
        simp only [u162_0, u162_1, u162_5, u162_8, u162_10, u162_13, u162_14, u162_17, u162_19, u162_22, u162_23, u162_26, u162_28, u162_32, u162_35, u162_36, u162_37, u162_38, u162_41, u162_42, u162_43, u162_46, u162_47, u162_50, u162_51, u162_54, u162_55, u162_56, u162_59, u162_62, ly_kd, ly_al, ly_fv0, ly_fv1, ly_fv2, ly_fv3, ly_fv4, ly_fk, ly_ra, Option.toList, List.cons_append, List.nil_append, q_ski, q_skr, q_sku, if_true, if_false, m_here hA h50 c1 hp1, gz42, gz47, gz37, if_false]
        exact h μ1 f1 (fun _ => c1) (fun z => absurd rfl z)
  unfold q_lvl at h
  by_cases e2 : (p pos n C).1 = true
  · rw [q_bd_t e2] at h
    obtain ⟨-, g2, g3⟩ := gg
    obtain ⟨g4, g5, g6, -⟩ := g3 e2
    exact main t _ _ _ μ1 f1 (a1 e2) (by omega) g2 (by omega) _ q_sku h
  · rw [q_bd_f e2] at h
    have gg2 := gg.2.1
    exact stop _ μ1 (by omega) (b1 e2).1 _ (h μ1 f1 a1 b1)
set_option maxHeartbeats 1000000 in
theorem m_sum {A : Nat → Int32} {t u d op : Nat} {p : Nat → Nat → (Nat → Int32) → Bool × Nat × Nat × (Nat → Int32)} (hA : q_by8s A t) (h50 : t ≤ 50) (hG : q_G t p) (hp : q_TM A t u (d + 2) 162 op p) : q_TM A t u (d + 3) 163 op (q_lvl A t q_s1 p) := by
  intro μ R pos n C hc hn ht h
  refine s163.mpr ?_
  simp only [u163_0, u163_1, u163_5, u163_8, u163_10, u163_13, u163_14, u163_17, u163_19, u163_22, u163_23, u163_26, u163_27, u163_28, u163_29, u163_32, u163_33, u163_34, u163_37, u163_38, u163_41, u163_42, u163_45, u163_46, u163_47, u163_50, u163_53, ly_kd, ly_al, ly_fv0, ly_fv1, ly_fv2, ly_fv3, ly_fv4, ly_fk, ly_ra, Option.toList, List.cons_append, List.nil_append, q_ski, q_skr, q_sku, if_true, if_false]
  refine hp μ _ pos n C hc hn ht (fun μ1 f1 a1 b1 => ?_)
  have gg := hG pos n C hn ht
  simp only [u163_0, u163_1, u163_5, u163_8, u163_10, u163_13, u163_14, u163_17, u163_19, u163_22, u163_23, u163_26, u163_27, u163_28, u163_29, u163_32, u163_33, u163_34, u163_37, u163_38, u163_41, u163_42, u163_45, u163_46, u163_47, u163_50, u163_53, ly_kd, ly_al, ly_fv0, ly_fv1, ly_fv2, ly_fv3, ly_fv4, ly_fk, ly_ra, Option.toList, List.cons_append, List.nil_append, q_ski, q_skr, q_sku, if_true, if_false]
  have stop : ∀ (f : Nat) (μ2 : gM), f < 100 → μ2 83 8 = nI f → ∀ l1, R none μ2 → gc_W (gc_S (d+2)) cX12_sum 12 2 R 4 [.ref 83, l1] [] μ2 := fun f μ2 hf h8 l1 h2 => by
    refine (u163_4).mpr ?_
    simp only [u163_0, u163_1, u163_5, u163_8, u163_10, u163_13, u163_14, u163_17, u163_19, u163_23, u163_26, u163_27, u163_28, u163_29, u163_32, u163_33, u163_34, u163_37, u163_38, u163_41, u163_42, u163_45, u163_46, u163_47, u163_50, u163_53, ly_kd, ly_al, ly_fv0, ly_fv1, ly_fv2, ly_fv3, ly_fv4, ly_fk, ly_ra, Option.toList, List.cons_append, List.nil_append, q_ski, q_skr, q_sku, if_true, if_false, m_hereF hf h8, show ¬ (-1 : Int32) = 43 by decide, show ¬ (-1 : Int32) = 45 by decide, if_false]
    exact h2
  have main : ∀ f p1 n1 C1 μ1, q_mf μ μ1 → q_ms A t u op p1 n1 C1 μ1 → n1 ≤ p1 → p1 ≤ t → t ≤ f + p1 → ∀ l1, gc_sk l1 = true → q_mo A t u op μ (q_lop A q_s1 p f p1 n1 C1) R → gc_W (gc_S (d+2)) cX12_sum 12 2 R 4 [.ref 83, l1] [] μ1 := by
    intro f
    induction f with
    | zero =>
      intro p1 n1 C1 μ1 f1 c1 hn1 hp1 hf l1 hl1 h
      have e1 := hA.2 p1 (by omega)
      refine (u163_4).mpr ?_
      simp only [u163_0, u163_1, u163_5, u163_8, u163_10, u163_13, u163_14, u163_17, u163_19, u163_23, u163_26, u163_27, u163_28, u163_29, u163_32, u163_33, u163_34, u163_37, u163_38, u163_41, u163_42, u163_45, u163_46, u163_47, u163_50, u163_53, ly_kd, ly_al, ly_fv0, ly_fv1, ly_fv2, ly_fv3, ly_fv4, ly_fk, ly_ra, Option.toList, List.cons_append, List.nil_append, q_ski, q_skr, q_sku, if_true, if_false, m_here hA h50 c1 hp1, e1, show ¬ (-1 : Int32) = 43 by decide, show ¬ (-1 : Int32) = 45 by decide, if_false]
      exact h μ1 f1 (fun _ => c1) (fun z => absurd rfl z)
    | succ f ih =>
      intro p1 n1 C1 μ1 f1 c1 hn1 hp1 hf l1 hl1 h
      have e : q_lop A q_s1 p (f + 1) p1 n1 C1 = if q_s1 (A p1) = true then q_bd (p (p1 + 1) n1 C1) (fun p2 n2 C2 => q_lop A q_s1 p f p2 (n2 + 1) (upd C2 n2 (20000 + A p1))) else (true, p1, n1, C1) := rfl
      rw [e] at h
      refine (u163_4).mpr ?_
      by_cases g : q_s1 (A p1) = true
      · rw [if_pos g] at h
        obtain ⟨sg1, -⟩ := q_sgn1 _ g
        have gz : A p1 = 43 ∨ A p1 = 45 := q_s1i g
        have pt := q_in_t hA sg1
        have body : gc_W (gc_S (d+2)) cX12_sum 12 2 R 22 [.ref 83, l1] [] μ1 := by
          refine (u163_22).mpr ?_
          simp only [u163_0, u163_1, u163_5, u163_8, u163_10, u163_13, u163_14, u163_17, u163_19, u163_23, u163_26, u163_27, u163_28, u163_29, u163_32, u163_33, u163_34, u163_37, u163_38, u163_41, u163_42, u163_45, u163_46, u163_47, u163_50, u163_53, ly_kd, ly_al, ly_fv0, ly_fv1, ly_fv2, ly_fv3, ly_fv4, ly_fk, ly_ra, Option.toList, List.cons_append, List.nil_append, q_ski, q_skr, q_sku, if_true, if_false, m_here hA h50 c1 hp1, hl1, c1.2.2.2.1, nI_1]
          have gg := hG (p1 + 1) n1 C1 (by omega) (by omega)
          refine hp _ _ (p1 + 1) n1 C1 (q_ms_pass c1) (by omega) (by omega) (fun μ2 f2 a2 b2 => ?_)
          have fa := f1.tr (q_mf_pass.tr f2)
          obtain ⟨g1, g2, g3⟩ := gg
          by_cases e2 : (p (p1 + 1) n1 C1).1 = true
          · rw [q_bd_t e2] at h
            obtain ⟨g4, g5, g6, -⟩ := g3 e2
            have c2 := a2 e2
            obtain ⟨c3, f3⟩ := q_ms_lay (z := 20000 + A p1) c2
            simp only [u163_0, u163_1, u163_5, u163_8, u163_10, u163_13, u163_14, u163_17, u163_19, u163_23, u163_26, u163_27, u163_28, u163_29, u163_32, u163_33, u163_34, u163_37, u163_38, u163_41, u163_42, u163_45, u163_46, u163_47, u163_50, u163_53, ly_kd, ly_al, ly_fv0, ly_fv1, ly_fv2, ly_fv3, ly_fv4, ly_fk, ly_ra, Option.toList, List.cons_append, List.nil_append, q_ski, q_skr, q_sku, if_true, if_false, m_lay c2.2.2.1 c2.2.2.2.2.1 (show (p (p1 + 1) n1 C1).2.2.1 < 60 by omega)]
            exact ih _ _ _ _ (fa.tr f3) c3 (by omega) g2 (by omega) _ q_ski h
          · rw [q_bd_f e2] at h
            simp only [u163_0, u163_1, u163_5, u163_8, u163_10, u163_13, u163_14, u163_17, u163_19, u163_23, u163_26, u163_27, u163_28, u163_29, u163_32, u163_33, u163_34, u163_37, u163_38, u163_41, u163_42, u163_45, u163_46, u163_47, u163_50, u163_53, ly_kd, ly_al, ly_fv0, ly_fv1, ly_fv2, ly_fv3, ly_fv4, ly_fk, ly_ra, Option.toList, List.cons_append, List.nil_append, q_ski, q_skr, q_sku, if_true, if_false, m_layF (show (p (p1 + 1) n1 C1).2.1 < 100 by omega) (b2 e2).1]
            exact stop _ _ (by omega) (b2 e2).1 _ (h _ fa a2 b2)
        rcases gz with gz | gz
        · have hh := fun (d : Nat) (R : gR) => m_here (d := d) (R := R) hA h50 c1 hp1
          rw [gz] at hh
          simp only [u163_0, u163_1, u163_5, u163_8, u163_10, u163_13, u163_14, u163_17, u163_19, u163_23, u163_26, u163_27, u163_28, u163_29, u163_32, u163_33, u163_34, u163_37, u163_38, u163_41, u163_42, u163_45, u163_46, u163_47, u163_50, u163_53, ly_kd, ly_al, ly_fv0, ly_fv1, ly_fv2, ly_fv3, ly_fv4, ly_fk, ly_ra, Option.toList, List.cons_append, List.nil_append, q_ski, q_skr, q_sku, if_true, if_false, hh, show ¬ (43 : Int32) = 45 by decide]
          exact body
        · have hh := fun (d : Nat) (R : gR) => m_here (d := d) (R := R) hA h50 c1 hp1
          rw [gz] at hh
          simp only [u163_0, u163_1, u163_5, u163_8, u163_10, u163_13, u163_14, u163_17, u163_19, u163_23, u163_26, u163_27, u163_28, u163_29, u163_32, u163_33, u163_34, u163_37, u163_38, u163_41, u163_42, u163_45, u163_46, u163_47, u163_50, u163_53, ly_kd, ly_al, ly_fv0, ly_fv1, ly_fv2, ly_fv3, ly_fv4, ly_fk, ly_ra, Option.toList, List.cons_append, List.nil_append, q_ski, q_skr, q_sku, if_true, if_false, hh, show ¬ (45 : Int32) = 43 by decide]
          exact body
      · rw [if_neg g] at h
        have gz43 : ¬ A p1 = 43 := fun z => g (by unfold q_s1; rw [z]; rfl)
        have gz45 : ¬ A p1 = 45 := fun z => g (by unfold q_s1; rw [z]; rfl)
        simp only [u163_0, u163_1, u163_5, u163_8, u163_10, u163_13, u163_14, u163_17, u163_19, u163_23, u163_26, u163_27, u163_28, u163_29, u163_32, u163_33, u163_34, u163_37, u163_38, u163_41, u163_42, u163_45, u163_46, u163_47, u163_50, u163_53, ly_kd, ly_al, ly_fv0, ly_fv1, ly_fv2, ly_fv3, ly_fv4, ly_fk, ly_ra, Option.toList, List.cons_append, List.nil_append, q_ski, q_skr, q_sku, if_true, if_false, m_here hA h50 c1 hp1, gz43, gz45, if_false]
        exact h μ1 f1 (fun _ => c1) (fun z => absurd rfl z)
  unfold q_lvl at h
  by_cases e2 : (p pos n C).1 = true
  · rw [q_bd_t e2] at h
    obtain ⟨-, g2, g3⟩ := gg
    obtain ⟨g4, g5, g6, -⟩ := g3 e2
    exact main t _ _ _ μ1 f1 (a1 e2) (by omega) g2 (by omega) _ q_sku h
  · rw [q_bd_f e2] at h
    have gg2 := gg.2.1
    exact stop _ μ1 (by omega) (b1 e2).1 _ (h μ1 f1 a1 b1)
set_option maxHeartbeats 1000000 in
theorem m_compared {A : Nat → Int32} {t u d op : Nat} {p : Nat → Nat → (Nat → Int32) → Bool × Nat × Nat × (Nat → Int32)} (hA : q_by8s A t) (h50 : t ≤ 50) (hG : q_G t p) (hp : q_TM A t u (d + 2) 163 op p) : q_TM A t u (d + 3) 159 op (q_cmd A p) := by
  intro μ R pos n C hc hn ht h
  refine s159.mpr ?_
  simp only [u159_0, u159_1, u159_4, u159_5, u159_8, u159_10, u159_12, u159_15, u159_16, u159_18, u159_21, u159_22, u159_24, u159_27, u159_28, u159_29, u159_32, u159_33, u159_34, u159_37, u159_38, u159_41, u159_42, u159_45, u159_46, u159_47, u159_50, ly_kd, ly_al, ly_fv0, ly_fv1, ly_fv2, ly_fv3, ly_fv4, ly_fk, ly_ra, Option.toList, List.cons_append, List.nil_append, q_ski, q_skr, q_sku, if_true, if_false]
  refine hp μ _ pos n C hc hn ht (fun μ1 f1 a1 b1 => ?_)
  have gg := hG pos n C hn ht
  unfold q_cmd at h
  by_cases e1 : (p pos n C).1 = true
  · rw [q_bd_t e1] at h
    obtain ⟨-, g2, g3⟩ := gg
    obtain ⟨g4, g5, g6, -⟩ := g3 e1
    have c1 := a1 e1
    have hn1 : (p pos n C).2.2.1 ≤ (p pos n C).2.1 := by omega
    generalize (p pos n C).2.1 = p1 at *
    generalize (p pos n C).2.2.1 = n1 at *
    generalize (p pos n C).2.2.2 = C1 at *
    simp only [u159_0, u159_1, u159_4, u159_5, u159_8, u159_10, u159_12, u159_15, u159_16, u159_18, u159_21, u159_22, u159_24, u159_27, u159_28, u159_29, u159_32, u159_33, u159_34, u159_37, u159_38, u159_41, u159_42, u159_45, u159_46, u159_47, u159_50, ly_kd, ly_al, ly_fv0, ly_fv1, ly_fv2, ly_fv3, ly_fv4, ly_fk, ly_ra, Option.toList, List.cons_append, List.nil_append, q_ski, q_skr, q_sku, if_true, if_false, m_here hA h50 c1 g2]
    refine (u159_9).mpr ?_
    by_cases g : q_s2 (A p1) = true
    · rw [if_pos g] at h
      obtain ⟨sg1, -⟩ := q_sgn2 _ g
      have gz : A p1 = 60 ∨ A p1 = 61 ∨ A p1 = 62 := q_s2i g
      have pt := q_in_t hA sg1
      have body : gc_W (gc_S (d+2)) cX12_compared 12 2 R 27 [.ref 83, .int (A p1)] [] μ1 := by
        refine (u159_27).mpr ?_
        simp only [u159_0, u159_1, u159_4, u159_5, u159_8, u159_9, u159_10, u159_12, u159_15, u159_16, u159_18, u159_21, u159_22, u159_24, u159_28, u159_29, u159_32, u159_33, u159_34, u159_37, u159_38, u159_41, u159_42, u159_45, u159_46, u159_47, u159_50, ly_kd, ly_al, ly_fv0, ly_fv1, ly_fv2, ly_fv3, ly_fv4, ly_fk, ly_ra, Option.toList, List.cons_append, List.nil_append, q_ski, q_skr, q_sku, if_true, if_false, c1.2.2.2.1, nI_1]
        have gg := hG (p1 + 1) n1 C1 (by omega) (by omega)
        refine hp _ _ (p1 + 1) n1 C1 (q_ms_pass c1) (by omega) (by omega) (fun μ2 f2 a2 b2 => ?_)
        have fa := f1.tr (q_mf_pass.tr f2)
        obtain ⟨g1, g2, g3⟩ := gg
        by_cases e2 : (p (p1 + 1) n1 C1).1 = true
        · rw [q_bd_t e2] at h
          obtain ⟨g4, g5, g6, -⟩ := g3 e2
          have c2 := a2 e2
          obtain ⟨c3, f3⟩ := q_ms_lay (z := 20000 + A p1) c2
          simp only [u159_0, u159_1, u159_4, u159_5, u159_8, u159_9, u159_10, u159_12, u159_15, u159_16, u159_18, u159_21, u159_22, u159_24, u159_28, u159_29, u159_32, u159_33, u159_34, u159_37, u159_38, u159_41, u159_42, u159_45, u159_46, u159_47, u159_50, ly_kd, ly_al, ly_fv0, ly_fv1, ly_fv2, ly_fv3, ly_fv4, ly_fk, ly_ra, Option.toList, List.cons_append, List.nil_append, q_ski, q_skr, q_sku, if_true, if_false, m_lay c2.2.2.1 c2.2.2.2.2.1 (show (p (p1 + 1) n1 C1).2.2.1 < 60 by omega)]
          exact h _ (fa.tr f3) (fun _ => c3) (fun z => absurd rfl z)
        · rw [q_bd_f e2] at h
          simp only [u159_0, u159_1, u159_4, u159_5, u159_8, u159_9, u159_10, u159_12, u159_15, u159_16, u159_18, u159_21, u159_22, u159_24, u159_28, u159_29, u159_32, u159_33, u159_34, u159_37, u159_38, u159_41, u159_42, u159_45, u159_46, u159_47, u159_50, ly_kd, ly_al, ly_fv0, ly_fv1, ly_fv2, ly_fv3, ly_fv4, ly_fk, ly_ra, Option.toList, List.cons_append, List.nil_append, q_ski, q_skr, q_sku, if_true, if_false, m_layF (show (p (p1 + 1) n1 C1).2.1 < 100 by omega) (b2 e2).1]
          exact h _ fa a2 b2
      rcases gz with gz | gz | gz
      · simp only [u159_0, u159_1, u159_4, u159_5, u159_8, u159_9, u159_10, u159_12, u159_15, u159_16, u159_18, u159_21, u159_22, u159_24, u159_28, u159_29, u159_32, u159_33, u159_34, u159_37, u159_38, u159_41, u159_42, u159_45, u159_46, u159_47, u159_50, ly_kd, ly_al, ly_fv0, ly_fv1, ly_fv2, ly_fv3, ly_fv4, ly_fk, ly_ra, Option.toList, List.cons_append, List.nil_append, q_ski, q_skr, q_sku, if_true, if_false, gz, show ¬ (60 : Int32) = 61 by decide, show ¬ (60 : Int32) = 62 by decide]
        rw [← gz]; exact body
      · simp only [u159_0, u159_1, u159_4, u159_5, u159_8, u159_9, u159_10, u159_12, u159_15, u159_16, u159_18, u159_21, u159_22, u159_24, u159_28, u159_29, u159_32, u159_33, u159_34, u159_37, u159_38, u159_41, u159_42, u159_45, u159_46, u159_47, u159_50, ly_kd, ly_al, ly_fv0, ly_fv1, ly_fv2, ly_fv3, ly_fv4, ly_fk, ly_ra, Option.toList, List.cons_append, List.nil_append, q_ski, q_skr, q_sku, if_true, if_false, gz, show ¬ (61 : Int32) = 60 by decide, show ¬ (61 : Int32) = 62 by decide]
        rw [← gz]; exact body
      · simp only [u159_0, u159_1, u159_4, u159_5, u159_8, u159_9, u159_10, u159_12, u159_15, u159_16, u159_18, u159_21, u159_22, u159_24, u159_28, u159_29, u159_32, u159_33, u159_34, u159_37, u159_38, u159_41, u159_42, u159_45, u159_46, u159_47, u159_50, ly_kd, ly_al, ly_fv0, ly_fv1, ly_fv2, ly_fv3, ly_fv4, ly_fk, ly_ra, Option.toList, List.cons_append, List.nil_append, q_ski, q_skr, q_sku, if_true, if_false, gz, show ¬ (62 : Int32) = 60 by decide, show ¬ (62 : Int32) = 61 by decide]
        rw [← gz]; exact body
    · rw [if_neg g] at h
      have gz60 : ¬ A p1 = 60 := fun z => g (by unfold q_s2; rw [z]; rfl)
      have gz61 : ¬ A p1 = 61 := fun z => g (by unfold q_s2; rw [z]; rfl)
      have gz62 : ¬ A p1 = 62 := fun z => g (by unfold q_s2; rw [z]; rfl)
      simp only [u159_0, u159_1, u159_4, u159_5, u159_8, u159_9, u159_10, u159_12, u159_15, u159_16, u159_18, u159_21, u159_22, u159_24, u159_28, u159_29, u159_32, u159_33, u159_34, u159_37, u159_38, u159_41, u159_42, u159_45, u159_46, u159_47, u159_50, ly_kd, ly_al, ly_fv0, ly_fv1, ly_fv2, ly_fv3, ly_fv4, ly_fk, ly_ra, Option.toList, List.cons_append, List.nil_append, q_ski, q_skr, q_sku, if_true, if_false, gz60, gz61, gz62, if_false]
      exact h μ1 f1 (fun _ => c1) (fun z => absurd rfl z)
  · rw [q_bd_f e1] at h
    have gg2 := gg.2.1
    simp only [u159_0, u159_1, u159_4, u159_5, u159_8, u159_9, u159_10, u159_12, u159_15, u159_16, u159_18, u159_21, u159_22, u159_24, u159_28, u159_29, u159_32, u159_33, u159_34, u159_37, u159_38, u159_41, u159_42, u159_45, u159_46, u159_47, u159_50, ly_kd, ly_al, ly_fv0, ly_fv1, ly_fv2, ly_fv3, ly_fv4, ly_fk, ly_ra, Option.toList, List.cons_append, List.nil_append, q_ski, q_skr, q_sku, if_true, if_false, m_hereF (show (p pos n C).2.1 < 100 by omega) (b1 e1).1, show ¬ (-1 : Int32) = 60 by decide, show ¬ (-1 : Int32) = 61 by decide, show ¬ (-1 : Int32) = 62 by decide, if_false]
    exact h μ1 f1 a1 b1
