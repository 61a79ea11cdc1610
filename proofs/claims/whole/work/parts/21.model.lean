/-! the reference's small methods -/
theorem m_finds {d : Nat} {R : gR} {μ : gM} {e : Int32} (he : vp_in e 6) : gc_S (d + 1) 141 [.ref 83, .int e] μ R ↔ R (some (.int (-1000000000 - e))) (gc_up μ 87 e.toNatClampNeg (μ 87 e.toNatClampNeg + 1)) := by
  simp only [s141, u141_0, u141_1, u141_4, u141_5, u141_6, u141_7, u141_8, u141_9, u141_10, u141_12, u141_13, u141_14, ly_kd, ly_al, ly_fv0, ly_fv1, ly_fv2, ly_fv3, ly_fv4, ly_fk, ly_ra, he, true_and]
theorem m_in {d : Nat} {R : gR} {μ : gM} {v lo hi : Int64} : gc_S (d + 1) 142 [.long v, .long lo, .long hi] μ R ↔ R (some (.int (q_b (lo ≤ v ∧ v ≤ hi)))) μ := by
  simp only [s142, u142_0, u142_1, u142_2, u142_3, u142_6, u142_7, u142_9, u142_10, u142_13, u142_14, u142_17, u142_18, q_z1, q_z2, true_and, q_cl, q_cg]
  unfold q_b
  by_cases ha : v < lo
  · have : ¬ (lo ≤ v ∧ v ≤ hi) := fun h => absurd h.1 (Int64.not_le.mpr ha)
    simp [ha, this]
  · have h0 := Int64.not_lt.mp ha
    by_cases hb : hi < v
    · have : ¬ (lo ≤ v ∧ v ≤ hi) := fun h => absurd h.2 (Int64.not_le.mpr hb)
      simp [ha, hb, this]
    · simp [ha, hb, h0, Int64.not_lt.mp hb]
theorem m_held {d : Nat} {R : gR} {μ : gM} {v lo hi : Int32} : gc_S (d + 1) 143 [.int v, .int lo, .int hi] μ R ↔ R (some (.int (if v < lo then lo else if hi < v then hi else v))) μ := by
  simp only [s143, u143_0, u143_1, u143_2, u143_5, u143_6, u143_9, u143_10, u143_11, u143_14, u143_15, u143_18, u143_19]
  by_cases h1 : v < lo
  · have h1' : ¬ lo ≤ v := Int32.not_le.mpr h1
    simp only [h1, h1', if_true, if_false]
  · have h1' : lo ≤ v := Int32.not_lt.mp h1
    by_cases h2 : hi < v
    · have h2' : ¬ v ≤ hi := Int32.not_le.mpr h2
      simp only [h1, h1', h2, h2', if_true, if_false]
    · have h2' : v ≤ hi := Int32.not_lt.mp h2
      simp only [h1, h1', h2, h2', if_true, if_false]
theorem m_isMourner {d : Nat} {R : gR} {μ : gM} {k : Int32} : gc_S (d + 2) 144 [.ref 83, .int k] μ R ↔ R (some (.int (q_b (0 ≤ k ∧ k ≤ μ 84 0 - 1)))) μ := by
  simp only [s144, u144_0, u144_1, u144_2, u144_3, u144_4, u144_7, u144_8, u144_9, u144_10, u144_11, u144_12, u144_15, ly_kd, ly_al, ly_fv0, ly_fv1, ly_fv2, ly_fv3, ly_fv4, ly_fk, ly_ra, Option.toList, List.cons_append, List.nil_append, q_ski, q_skr, q_sku, if_true, if_false, m_in, q_b01, true_and, q_v247, q_tn, q_wl0, q_wl1, q_wl48, q_wu1, q_wu2, q_wu3, q_wu5, q_wu6, q_wu7, q_wu8, q_wu15, q_wu30, q_wu40, q_wu57, q_wu60, q_wu69, q_wu99, q_wu1584, fa_wide_le]
theorem m_isCell {d : Nat} {R : gR} {μ : gM} {k : Int32} : gc_S (d + 2) 145 [.int k] μ R ↔ R (some (.int (q_b (0 ≤ k ∧ k ≤ 15)))) μ := by
  simp only [s145, u145_0, u145_1, u145_2, u145_3, u145_6, u145_9, ly_kd, ly_al, ly_fv0, ly_fv1, ly_fv2, ly_fv3, ly_fv4, ly_fk, ly_ra, Option.toList, List.cons_append, List.nil_append, q_ski, q_skr, q_sku, if_true, if_false, m_in, q_b01, true_and, q_wl0, q_wl1, q_wl48, q_wu1, q_wu2, q_wu3, q_wu5, q_wu6, q_wu7, q_wu8, q_wu15, q_wu30, q_wu40, q_wu57, q_wu60, q_wu69, q_wu99, q_wu1584, fa_wide_le]
theorem m_of {d : Nat} {R : gR} {μ : gM} {k w : Int32} : gc_S (d + 1) 146 [.ref 83, .int k, .int w] μ R ↔ (vp_in (43 + 4 * k + w) 247 ∧ R (some (.int (μ 84 (43 + 4 * k + w).toNatClampNeg))) μ) := by
  simp only [s146, u146_0, u146_1, u146_4, u146_6, u146_7, u146_8, u146_9, u146_10, u146_11, u146_12, u146_13, ly_kd, ly_al, ly_fv0, ly_fv1, ly_fv2, ly_fv3, ly_fv4, ly_fk, ly_ra]
theorem m_sets {d : Nat} {R : gR} {μ : gM} {k w v : Int32} : gc_S (d + 1) 147 [.ref 83, .int k, .int w, .int v] μ R ↔ (vp_in (43 + 4 * k + w) 247 ∧ R none (gc_up μ 84 (43 + 4 * k + w).toNatClampNeg v)) := by
  simp only [s147, u147_0, u147_1, u147_4, u147_6, u147_7, u147_8, u147_9, u147_10, u147_11, u147_12, u147_13, u147_14, ly_kd, ly_al, ly_fv0, ly_fv1, ly_fv2, ly_fv3, ly_fv4, ly_fk, ly_ra]
theorem m_becomes {d : Nat} {R : gR} {μ : gM} {w v : Int32} : gc_S (d + 1) 149 [.ref 83, .int w, .int v] μ R ↔ (vp_in w 247 ∧ vp_in w 247 ∧ R (some (.int (μ 84 w.toNatClampNeg))) (gc_up μ 84 w.toNatClampNeg v)) := by
  simp only [s149, u149_0, u149_1, u149_4, u149_5, u149_6, u149_7, u149_8, u149_11, u149_12, u149_13, u149_14, u149_15, ly_kd, ly_al, ly_fv0, ly_fv1, ly_fv2, ly_fv3, ly_fv4, ly_fk, ly_ra, Option.toList, List.cons_append, List.nil_append, q_ski, q_skr, q_sku, if_true, if_false]
theorem m_keepAside {d : Nat} {R : gR} {μ : gM} : gc_S (d + 1) 151 [.ref 83] μ R ↔ R none (gc_cp μ 84 86 0 0 75) := by
  simp only [s151, u151_0, u151_1, u151_3, u151_5, u151_8, u151_9, u151_12, u151_13, u151_14, u151_17, u151_18, u151_19, u151_20, u151_23, u151_26, Option.toList, List.cons_append, List.nil_append, q_ski, q_skr, q_sku, if_true, if_false]
  refine q_loop0 (X := fun c => gc_W (gc_S d) cX12_keepAside 12 2 R 2 [.ref 83, .int (nI c)] [] (gc_cp μ 84 86 0 0 c)) 75 (by rw [q_cp_0]; exact Iff.rfl) (fun c hc => (u151_2).trans ?_) ?_
  · have e := q_cp_s (μ := μ) (o1 := 84) (o2 := 86) (a := 0) (b := 0) (n := c)
    rw [Nat.zero_add] at e
    simp only [u151_0, u151_1, u151_3, u151_5, u151_8, u151_9, u151_12, u151_13, u151_14, u151_17, u151_18, u151_19, u151_20, u151_23, u151_26, q_nle hc (by decide) (show (75 : Int32) = nI 75 from rfl), ly_kd, ly_al, ly_fv0, ly_fv1, ly_fv2, ly_fv3, ly_fv4, ly_fk, ly_ra, vp_in_nI hc (by decide), vp_in_nI (show c < 247 by omega) (by decide), true_and, nI_clamp (show c < 2 ^ 31 by omega), nI_1, if_false, q_cp_o (show (84 : Nat) ≠ 86 by decide), e]
  · simp only [u151_0, u151_1, u151_2, u151_3, u151_5, u151_8, u151_9, u151_12, u151_13, u151_14, u151_17, u151_18, u151_19, u151_20, u151_23, u151_26, show (75 : Int32) ≤ nI 75 by decide, if_true]
theorem m_putBack {d : Nat} {R : gR} {μ : gM} : gc_S (d + 1) 152 [.ref 83] μ R ↔ R none (gc_cp μ 86 84 0 0 75) := by
  simp only [s152, u152_0, u152_1, u152_3, u152_5, u152_8, u152_9, u152_12, u152_13, u152_14, u152_17, u152_18, u152_19, u152_20, u152_23, u152_26, Option.toList, List.cons_append, List.nil_append, q_ski, q_skr, q_sku, if_true, if_false]
  refine q_loop0 (X := fun c => gc_W (gc_S d) cX12_putBack 12 2 R 2 [.ref 83, .int (nI c)] [] (gc_cp μ 86 84 0 0 c)) 75 (by rw [q_cp_0]; exact Iff.rfl) (fun c hc => (u152_2).trans ?_) ?_
  · have e := q_cp_s (μ := μ) (o1 := 86) (o2 := 84) (a := 0) (b := 0) (n := c)
    rw [Nat.zero_add] at e
    simp only [u152_0, u152_1, u152_3, u152_5, u152_8, u152_9, u152_12, u152_13, u152_14, u152_17, u152_18, u152_19, u152_20, u152_23, u152_26, q_nle hc (by decide) (show (75 : Int32) = nI 75 from rfl), ly_kd, ly_al, ly_fv0, ly_fv1, ly_fv2, ly_fv3, ly_fv4, ly_fk, ly_ra, vp_in_nI hc (by decide), vp_in_nI (show c < 247 by omega) (by decide), true_and, nI_clamp (show c < 2 ^ 31 by omega), nI_1, if_false, q_cp_o (show (86 : Nat) ≠ 84 by decide), e]
  · simp only [u152_0, u152_1, u152_2, u152_3, u152_5, u152_8, u152_9, u152_12, u152_13, u152_14, u152_17, u152_18, u152_19, u152_20, u152_23, u152_26, show (75 : Int32) ≤ nI 75 by decide, if_true]
