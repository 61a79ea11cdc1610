theorem q_mrn {D : Nat → Int32} (hok : q_ok D) {k : Int32} (h : 0 ≤ k ∧ k ≤ D 0 - 1) : ∃ i n, k = nI i ∧ i < n ∧ n ≤ 8 ∧ D 0 = nI n := by
  obtain ⟨⟨n, hn, hn8⟩, -⟩ := hok
  rw [hn] at h
  cases n with
  | zero => exact absurd (Int32.le_trans h.1 h.2) (by decide)
  | succ n =>
    rw [nI_pred] at h
    obtain ⟨j, hj, rfl⟩ := q_rng (nI_toInt (by omega)) h
    exact ⟨j, n + 1, rfl, by omega, hn8, hn⟩
theorem m_eased {d : Nat} {R : gR} {μ : gM} {k v : Int32} {y : Nat} (hok : q_ok (μ 84)) (hy : μ 84 1 = nI y) (hy2 : y ≤ 10000) (h : if (0 ≤ k ∧ k ≤ μ 84 0 - 1) ∧ 0 ≤ v ∧ v ≤ 99 then (if q_yrs (μ 84) (q_low (μ 84) (45 + 4 * k.toNatClampNeg) v) (45 + 4 * k.toNatClampNeg) ≤ v then ∀ μ', q_f2 μ μ' → R (some (.int (nI (q_low (μ 84) (45 + 4 * k.toNatClampNeg) v)))) μ' else ∀ μ', q_f2 μ μ' → R (some (.int (-1000000002))) (gc_up μ' 87 2 (μ' 87 2 + 1))) else R (some (.int (-1000000001))) (gc_up μ 87 1 (μ 87 1 + 1))) : gc_S (d + 8) 207 [.ref 83, .int k, .int v] μ R := by
  simp only [s207, u207_0, u207_1, u207_2, u207_5, u207_8, u207_9, u207_10, u207_11, u207_14, u207_17, u207_20, u207_21, u207_23, u207_24, u207_25, u207_26, u207_27, u207_28, u207_29, u207_30, u207_33, u207_36, u207_37, u207_38, u207_41, ly_kd, ly_al, ly_fv0, ly_fv1, ly_fv2, ly_fv3, ly_fv4, ly_fk, ly_ra, Option.toList, List.cons_append, List.nil_append, q_ski, q_skr, q_sku, if_true, if_false, m_isMourner, m_in, m_f1, q_b0, q_not, q_wl0, q_wl1, q_wl48, q_wu1, q_wu2, q_wu3, q_wu5, q_wu6, q_wu7, q_wu8, q_wu15, q_wu30, q_wu40, q_wu57, q_wu60, q_wu69, q_wu99, q_wu1584, fa_wide_le]
  by_cases h1 : 0 ≤ k ∧ k ≤ μ 84 0 - 1
  · by_cases h2 : 0 ≤ v ∧ v ≤ 99
    · rw [if_pos ⟨h1, h2⟩] at h
      simp only [h1, h2, and_self, if_true]
      obtain ⟨i, n, rfl, hi, hn, -⟩ := q_mrn hok h1
      rw [nI_clamp (by omega)] at h
      rw [show (43 : Int32) + 4 * nI i + 2 = nI (45 + 4 * i) by rw [show (4 : Int32) = nI 4 from rfl, pk_mul, show (43 : Int32) = nI 43 from rfl, nI_add, show (2 : Int32) = nI 2 from rfl, nI_add]; congr 1; omega]
      refine m_firstLow hok hy hy2 (by omega) ?_
      simp only [u207_0, u207_1, u207_2, u207_5, u207_8, u207_9, u207_10, u207_11, u207_14, u207_17, u207_20, u207_21, u207_23, u207_24, u207_25, u207_26, u207_27, u207_28, u207_29, u207_30, u207_33, u207_36, u207_37, u207_38, u207_41, ly_kd, ly_al, ly_fv0, ly_fv1, ly_fv2, ly_fv3, ly_fv4, ly_fk, ly_ra, Option.toList, List.cons_append, List.nil_append, q_ski, q_skr, q_sku, if_true, if_false]
      exact h
    · rw [if_neg (fun q => h2 q.2)] at h
      simp only [h1, h2, and_self, if_true, if_false]
      exact h
  · rw [if_neg (fun q => h1 q.1)] at h
    simp only [h1, if_false]
    exact h
/-- by which number all is least wet behind n years: of c of them, and how wet -/
def q_bw (D : Nat → Int32) (w n c : Nat) : Int32 := q_sum (fun j => q_yrs (upd D w (nI c)) n (5 + 1 * j)) 16
def q_bst (D : Nat → Int32) (w n : Nat) : Nat → Int32 × Int32
  | 0 => (0, 100000)
  | c + 1 => if q_bw D w n c < (q_bst D w n c).2 then (nI c, q_bw D w n c) else q_bst D w n c
theorem m_bestOf {d : Nat} {R : gR} {μ : gM} {w y n most : Nat} (hy : μ 84 1 = nI y) (hy2 : y ≤ 10000) (hn : n ≤ 60) (hw : 1 < w ∧ w < 75) (hm : most ≤ 15) (hok : ∀ v, v ≤ most → q_ok (upd (μ 84) w (nI v))) (h : ∀ μ', q_f2 μ μ' → R (some (.int (q_bst (μ 84) w n (most + 1)).1)) μ') : gc_S (d + 9) 209 [.ref 83, .int (nI w), .int (nI most), .int (nI n)] μ R := by
  simp only [s209, u209_0, u209_1, u209_4, u209_5, u209_7, u209_10, u209_12, u209_13, u209_17, u209_18, u209_21, u209_22, u209_25, u209_26, u209_28, u209_29, u209_30, u209_31, u209_34, u209_36, u209_38, u209_40, u209_43, u209_45, u209_47, u209_49, u209_51, u209_54, u209_57, u209_59, ly_kd, ly_al, ly_fv0, ly_fv1, ly_fv2, ly_fv3, ly_fv4, ly_fk, ly_ra, Option.toList, List.cons_append, List.nil_append, q_ski, q_skr, q_sku, if_true, if_false, m_keepAside]
  have vw : vp_in (nI w) 247 := vp_in_nI (by omega) (by decide)
  have cw : (nI w).toNatClampNeg = w := nI_clamp (by omega)
  have main : ∀ k c, c + k = most + 1 → ∀ μ0, q_f2 μ μ0 → (∀ j, j < 75 → μ0 86 j = μ 84 j) → ∀ l7, gc_sk l7 = true → gc_W (gc_S (d+8)) cX12_bestOf 12 0 R 15 [.ref 83, .int (nI w), .int (nI most), .int (nI n), .int (q_bst (μ 84) w n c).1, .int (q_bst (μ 84) w n c).2, .int (nI c), l7] [] μ0 := by
    intro k
    induction k with
    | zero =>
      intro c hc μ0 h0 ha l7 hl7
      have ec : c = most + 1 := hc
      refine (u209_15).mpr ?_
      simp only [u209_0, u209_1, u209_4, u209_5, u209_7, u209_10, u209_12, u209_13, u209_17, u209_18, u209_21, u209_22, u209_25, u209_26, u209_28, u209_29, u209_30, u209_31, u209_34, u209_36, u209_38, u209_40, u209_43, u209_45, u209_47, u209_49, u209_51, u209_54, u209_57, u209_59, show nI most < nI c from nI_lt (by omega) (by omega), ly_kd, ly_al, ly_fv0, ly_fv1, ly_fv2, ly_fv3, ly_fv4, ly_fk, ly_ra, Option.toList, List.cons_append, List.nil_append, q_ski, q_skr, q_sku, if_true, if_false]
      rw [ec]
      exact h μ0 h0
    | succ k ih =>
      intro c hc μ0 h0 ha l7 hl7
      have e84 : μ0 84 = μ 84 := h0 84 (by decide) (by decide) (by decide) (by decide)
      refine (u209_15).mpr ?_
      simp only [u209_0, u209_1, u209_4, u209_5, u209_7, u209_10, u209_12, u209_13, u209_17, u209_18, u209_21, u209_22, u209_25, u209_26, u209_28, u209_29, u209_30, u209_31, u209_34, u209_36, u209_38, u209_40, u209_43, u209_45, u209_47, u209_49, u209_51, u209_54, u209_57, u209_59, show ¬ nI most < nI c from nI_nlt (by omega) (by omega), vw, cw, true_and, ly_kd, ly_al, ly_fv0, ly_fv1, ly_fv2, ly_fv3, ly_fv4, ly_fk, ly_ra, Option.toList, List.cons_append, List.nil_append, q_ski, q_skr, q_sku, if_true, if_false]
      have u84 : gc_up μ0 84 w (nI c) 84 = upd (μ 84) w (nI c) := by rw [gc_up_eq, e84]
      have y84 : gc_up μ0 84 w (nI c) 84 1 = nI y := by rw [u84]; unfold upd; rw [if_neg (by omega)]; exact hy
      have hokc := hok c (by omega)
      refine m_wetBehind (y := y) (by rw [u84]; exact hokc) y84 (by omega) (fun μ1 h1 hD1 => ?_)
      rw [u84] at hD1
      have back : ∀ l, gc_sk l = true → gc_W (gc_S (d+8)) cX12_bestOf 12 0 R 15 [.ref 83, .int (nI w), .int (nI most), .int (nI n), .int (q_bst (μ 84) w n (c + 1)).1, .int (q_bst (μ 84) w n (c + 1)).2, .int (nI (c + 1)), l] [] μ1 := by
        have h86 : μ1 86 = μ0 86 := by rw [h1 86 (by decide) (by decide) (by decide) (by decide)]; exact if_neg (by decide)
        refine fun l hl => ih (c + 1) (by omega) μ1 (fun o k1 k2 k3 k4 => ?_) (fun j hj => by rw [h86]; exact ha j hj) l hl
        by_cases e : o = 84
        · subst e
          rw [hD1]
          funext j
          unfold va_cpy
          by_cases hj : j < 75
          · rw [if_pos (by omega)]
            have : gc_up μ0 84 w (nI c) 86 = μ0 86 := if_neg (by decide)
            rw [this, ha _ (by omega)]
            congr 1
            omega
          · rw [if_neg (by omega), q_yrs_hi (y := y) hokc (by rw [← u84]; exact y84) (by omega) n (by omega)]
            unfold upd
            rw [if_neg (by omega)]
        · rw [h1 o e k2 k3 k4]
          exact (if_neg e).trans (h0 o k1 k2 k3 k4)
      rw [u84]
      have hb : q_sum (fun j => q_yrs (upd (μ 84) w (nI c)) n (5 + 1 * j)) 16 = q_bw (μ 84) w n c := rfl
      have es : q_bst (μ 84) w n (c + 1) = if q_bw (μ 84) w n c < (q_bst (μ 84) w n c).2 then (nI c, q_bw (μ 84) w n c) else q_bst (μ 84) w n c := rfl
      rw [hb]
      simp only [u209_0, u209_1, u209_4, u209_5, u209_7, u209_10, u209_12, u209_13, u209_17, u209_18, u209_21, u209_22, u209_25, u209_26, u209_28, u209_29, u209_30, u209_31, u209_34, u209_36, u209_38, u209_40, u209_43, u209_45, u209_47, u209_49, u209_51, u209_54, u209_57, u209_59, ly_kd, ly_al, ly_fv0, ly_fv1, ly_fv2, ly_fv3, ly_fv4, ly_fk, ly_ra, Option.toList, List.cons_append, List.nil_append, q_ski, q_skr, q_sku, if_true, if_false, hl7]
      by_cases hl : q_bw (μ 84) w n c < (q_bst (μ 84) w n c).2
      · rw [es, if_pos hl] at back
        simp only [Int32.not_le.mpr hl, u209_0, u209_1, u209_4, u209_5, u209_7, u209_10, u209_12, u209_13, u209_17, u209_18, u209_21, u209_22, u209_25, u209_26, u209_28, u209_29, u209_30, u209_31, u209_34, u209_36, u209_38, u209_40, u209_43, u209_45, u209_47, u209_49, u209_51, u209_54, u209_57, u209_59, ly_kd, ly_al, ly_fv0, ly_fv1, ly_fv2, ly_fv3, ly_fv4, ly_fk, ly_ra, Option.toList, List.cons_append, List.nil_append, q_ski, q_skr, q_sku, if_true, if_false, nI_1]
        exact back _ rfl
      · rw [es, if_neg hl] at back
        simp only [Int32.not_lt.mp hl, u209_0, u209_1, u209_4, u209_5, u209_7, u209_10, u209_12, u209_13, u209_17, u209_18, u209_21, u209_22, u209_25, u209_26, u209_28, u209_29, u209_30, u209_31, u209_34, u209_36, u209_38, u209_40, u209_43, u209_45, u209_47, u209_49, u209_51, u209_54, u209_57, u209_59, ly_kd, ly_al, ly_fv0, ly_fv1, ly_fv2, ly_fv3, ly_fv4, ly_fk, ly_ra, Option.toList, List.cons_append, List.nil_append, q_ski, q_skr, q_sku, if_true, if_false, nI_1]
        exact back _ rfl
  refine main (most + 1) 0 (by omega) _ (fun o h1 h2 h3 h4 => gc_cp_ne h1) (fun j hj => ?_) _ rfl
  rw [gc_cp_eq]
  unfold va_cpy
  rw [if_pos (by omega)]
  congr 1
  omega
