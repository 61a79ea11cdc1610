def q_first (p : Nat → Prop) [DecidablePred p] : Nat → Nat → Nat
  | c, 0 => c
  | c, k + 1 => if p c then c else q_first p (c + 1) k
theorem q_first_le (p : Nat → Prop) [DecidablePred p] : ∀ k c, q_first p c k ≤ c + k
  | 0, c => Nat.le_refl _
  | k + 1, c => by
    unfold q_first
    by_cases h : p c
    · rw [if_pos h]; omega
    · rw [if_neg h]; have := q_first_le p k (c + 1); omega
/-- behind how few years it is so low first -/
def q_low (D : Nat → Int32) (w : Nat) (v : Int32) : Nat := q_first (fun n => q_yrs D n w ≤ v) 0 60
theorem m_firstLow {d : Nat} {R : gR} {μ : gM} {w y : Nat} {v : Int32} (hok : q_ok (μ 84)) (hy : μ 84 1 = nI y) (hy2 : y ≤ 10000) (hw : w < 247) (h : if q_yrs (μ 84) (q_low (μ 84) w v) w ≤ v then ∀ μ', q_f2 μ μ' → R (some (.int (nI (q_low (μ 84) w v)))) μ' else ∀ μ', q_f2 μ μ' → R (some (.int (-1000000002))) (gc_up μ' 87 2 (μ' 87 2 + 1))) : gc_S (d + 7) 205 [.ref 83, .int (nI w), .int v] μ R := by
  simp only [s205, u205_0, u205_1, u205_4, u205_5, u205_7, u205_9, u205_12, u205_13, u205_16, u205_17, u205_18, u205_19, u205_22, u205_23, u205_26, u205_29, u205_32, u205_33, u205_36, u205_37, u205_38, u205_39, u205_42, u205_43, u205_46, u205_47, u205_49, u205_50, u205_53, u205_55, u205_58, u205_59, u205_62, u205_63, u205_64, u205_67, ly_kd, ly_al, ly_fv0, ly_fv1, ly_fv2, ly_fv3, ly_fv4, ly_fk, ly_ra, Option.toList, List.cons_append, List.nil_append, q_ski, q_skr, q_sku, if_true, if_false, m_keepAside]
  generalize hmm : q_low (μ 84) w v = m at h
  have hm60 : m ≤ 60 := by rw [← hmm]; exact q_first_le _ 60 0
  have vw : vp_in (nI w) 247 := vp_in_nI hw (by decide)
  have cw : (nI w).toNatClampNeg = w := nI_clamp (by omega)
  have fin : ∀ μ0, q_fr (gc_cp μ 84 86 0 0 75) μ0 → μ0 84 = q_yrs (μ 84) m → gc_W (gc_S (d+6)) cX12_firstLow 12 0 R 32 [.ref 83, .int (nI w), .int v, .int (nI m), .retAddr 0] [] μ0 := by
    intro μ0 h0 hD
    have hb := q_back h0 (fun j hj => by rw [hD]; exact q_yrs_hi hok hy hj m (by omega))
    have e : μ0 84 w = q_yrs (μ 84) m w := by rw [hD]
    simp only [u205_0, u205_1, u205_4, u205_5, u205_7, u205_9, u205_12, u205_13, u205_16, u205_17, u205_18, u205_19, u205_22, u205_23, u205_26, u205_29, u205_32, u205_33, u205_36, u205_37, u205_38, u205_39, u205_42, u205_43, u205_46, u205_47, u205_49, u205_50, u205_53, u205_55, u205_58, u205_59, u205_62, u205_63, u205_64, u205_67, ly_kd, ly_al, ly_fv0, ly_fv1, ly_fv2, ly_fv3, ly_fv4, ly_fk, ly_ra, Option.toList, List.cons_append, List.nil_append, q_ski, q_skr, q_sku, if_true, if_false, vw, cw, true_and, e]
    by_cases hl : q_yrs (μ 84) m w ≤ v
    · rw [if_pos hl] at h
      simp only [Int32.not_lt.mpr hl, u205_0, u205_1, u205_4, u205_5, u205_7, u205_9, u205_12, u205_13, u205_16, u205_17, u205_18, u205_19, u205_22, u205_23, u205_26, u205_29, u205_32, u205_33, u205_36, u205_37, u205_38, u205_39, u205_42, u205_43, u205_46, u205_47, u205_49, u205_50, u205_53, u205_55, u205_58, u205_59, u205_62, u205_63, u205_64, u205_67, ly_kd, ly_al, ly_fv0, ly_fv1, ly_fv2, ly_fv3, ly_fv4, ly_fk, ly_ra, Option.toList, List.cons_append, List.nil_append, q_ski, q_skr, q_sku, if_true, if_false, m_putBack, m_f2]
      exact h _ hb
    · rw [if_neg hl] at h
      simp only [Int32.not_le.mp hl, u205_0, u205_1, u205_4, u205_5, u205_7, u205_9, u205_12, u205_13, u205_16, u205_17, u205_18, u205_19, u205_22, u205_23, u205_26, u205_29, u205_32, u205_33, u205_36, u205_37, u205_38, u205_39, u205_42, u205_43, u205_46, u205_47, u205_49, u205_50, u205_53, u205_55, u205_58, u205_59, u205_62, u205_63, u205_64, u205_67, ly_kd, ly_al, ly_fv0, ly_fv1, ly_fv2, ly_fv3, ly_fv4, ly_fk, ly_ra, Option.toList, List.cons_append, List.nil_append, q_ski, q_skr, q_sku, if_true, if_false, m_putBack, m_f2]
      exact h _ hb
  have main : ∀ k c, c + k = 60 → q_first (fun n => q_yrs (μ 84) n w ≤ v) c k = m → ∀ μ0, q_fr (gc_cp μ 84 86 0 0 75) μ0 → μ0 84 = q_yrs (μ 84) c → gc_W (gc_S (d+6)) cX12_firstLow 12 0 R 6 [.ref 83, .int (nI w), .int v, .int (nI c), .retAddr 0] [] μ0 := by
    intro k
    induction k with
    | zero =>
      intro c hc hm μ0 h0 hD
      have ec : c = m := hm
      have ec2 : c = 60 := hc
      refine (u205_6).mpr ?_
      simp only [u205_0, u205_1, u205_4, u205_5, u205_7, u205_9, u205_12, u205_13, u205_16, u205_17, u205_18, u205_19, u205_22, u205_23, u205_26, u205_29, u205_33, u205_36, u205_37, u205_38, u205_39, u205_42, u205_43, u205_46, u205_47, u205_49, u205_50, u205_53, u205_55, u205_58, u205_59, u205_62, u205_63, u205_64, u205_67, show (60 : Int32) ≤ nI c by rw [ec2]; exact Int32.le_refl _, ly_kd, ly_al, ly_fv0, ly_fv1, ly_fv2, ly_fv3, ly_fv4, ly_fk, ly_ra, Option.toList, List.cons_append, List.nil_append, q_ski, q_skr, q_sku, if_true, if_false]
      rw [ec]
      exact fin μ0 h0 (by rw [← ec]; exact hD)
    | succ k ih =>
      intro c hc hm μ0 h0 hD
      have e : μ0 84 w = q_yrs (μ 84) c w := by rw [hD]
      refine (u205_6).mpr ?_
      simp only [u205_0, u205_1, u205_4, u205_5, u205_7, u205_9, u205_12, u205_13, u205_16, u205_17, u205_18, u205_19, u205_22, u205_23, u205_26, u205_29, u205_33, u205_36, u205_37, u205_38, u205_39, u205_42, u205_43, u205_46, u205_47, u205_49, u205_50, u205_53, u205_55, u205_58, u205_59, u205_62, u205_63, u205_64, u205_67, q_nle (show c < 60 by omega) (by decide) (show (60 : Int32) = nI 60 from rfl), ly_kd, ly_al, ly_fv0, ly_fv1, ly_fv2, ly_fv3, ly_fv4, ly_fk, ly_ra, Option.toList, List.cons_append, List.nil_append, q_ski, q_skr, q_sku, if_true, if_false, vw, cw, true_and, e]
      unfold q_first at hm
      by_cases hl : q_yrs (μ 84) c w ≤ v
      · rw [if_pos hl] at hm
        simp only [hl, if_true]
        rw [hm]
        exact fin μ0 h0 (by rw [← hm]; exact hD)
      · rw [if_neg hl] at hm
        simp only [hl, if_false, u205_0, u205_1, u205_4, u205_5, u205_7, u205_9, u205_12, u205_13, u205_16, u205_17, u205_18, u205_19, u205_22, u205_23, u205_26, u205_29, u205_33, u205_36, u205_37, u205_38, u205_39, u205_42, u205_43, u205_46, u205_47, u205_49, u205_50, u205_53, u205_55, u205_58, u205_59, u205_62, u205_63, u205_64, u205_67, ly_kd, ly_al, ly_fv0, ly_fv1, ly_fv2, ly_fv3, ly_fv4, ly_fk, ly_ra, Option.toList, List.cons_append, List.nil_append, q_ski, q_skr, q_sku, if_true, if_false]
        have hok1 : q_ok (μ0 84) := by rw [hD]; exact (q_ok_yrs hok hy c (by omega)).1
        refine m_yearGoes hok1 (fun μ1 h1 hD1 => ?_)
        simp only [u205_0, u205_1, u205_4, u205_5, u205_7, u205_9, u205_12, u205_13, u205_16, u205_17, u205_18, u205_19, u205_22, u205_23, u205_26, u205_29, u205_33, u205_36, u205_37, u205_38, u205_39, u205_42, u205_43, u205_46, u205_47, u205_49, u205_50, u205_53, u205_55, u205_58, u205_59, u205_62, u205_63, u205_64, u205_67, ly_kd, ly_al, ly_fv0, ly_fv1, ly_fv2, ly_fv3, ly_fv4, ly_fk, ly_ra, Option.toList, List.cons_append, List.nil_append, q_ski, q_skr, q_sku, if_true, if_false, nI_1]
        exact ih (c + 1) (by omega) hm μ1 (h0.tr h1) (by rw [hD1, hD]; rfl)
  exact main 60 0 rfl hmm _ q_fr.rf q_as
theorem m_dry {d : Nat} {R : gR} {μ : gM} {c : Int32} {y : Nat} (hok : q_ok (μ 84)) (hy : μ 84 1 = nI y) (hy2 : y ≤ 10000) (h : if 0 ≤ c ∧ c ≤ 15 then (if q_yrs (μ 84) (q_low (μ 84) (5 + c.toNatClampNeg) 0) (5 + c.toNatClampNeg) ≤ 0 then ∀ μ', q_f2 μ μ' → R (some (.int (nI (q_low (μ 84) (5 + c.toNatClampNeg) 0)))) μ' else ∀ μ', q_f2 μ μ' → R (some (.int (-1000000002))) (gc_up μ' 87 2 (μ' 87 2 + 1))) else R (some (.int (-1000000001))) (gc_up μ 87 1 (μ 87 1 + 1))) : gc_S (d + 8) 206 [.ref 83, .int c] μ R := by
  simp only [s206, u206_0, u206_1, u206_4, u206_7, u206_8, u206_9, u206_10, u206_11, u206_12, u206_15, u206_18, u206_19, u206_20, u206_23, ly_kd, ly_al, ly_fv0, ly_fv1, ly_fv2, ly_fv3, ly_fv4, ly_fk, ly_ra, Option.toList, List.cons_append, List.nil_append, q_ski, q_skr, q_sku, if_true, if_false, m_isCell, m_f1, q_b0, q_not]
  by_cases h1 : 0 ≤ c ∧ c ≤ 15
  · rw [if_pos h1] at h
    obtain ⟨i, hi, rfl⟩ := q_rng (n := 15) rfl h1
    rw [nI_clamp (by omega)] at h
    simp only [h1, and_self, if_true]
    rw [show (5 : Int32) + nI i = nI (5 + i) from nI_add 5 i]
    refine m_firstLow hok hy hy2 (by omega) ?_
    simp only [u206_0, u206_1, u206_4, u206_7, u206_8, u206_9, u206_10, u206_11, u206_12, u206_15, u206_18, u206_19, u206_20, u206_23, ly_kd, ly_al, ly_fv0, ly_fv1, ly_fv2, ly_fv3, ly_fv4, ly_fk, ly_ra, Option.toList, List.cons_append, List.nil_append, q_ski, q_skr, q_sku, if_true, if_false]
    exact h
  · rw [if_neg h1] at h
    simp only [h1, if_false]
    exact h
