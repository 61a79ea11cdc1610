/-! the reference: which, how sad, odds -/
theorem q_40 {s j : Nat} : (40 : Int32) * nI s + nI j = nI (40 * s + j) := by rw [show (40 : Int32) = nI 40 from rfl, pk_mul, nI_add]
set_option maxHeartbeats 1000000 in
theorem m_isTold {d : Nat} {R : gR} {μ : gM} {s n y : Nat} (hok : q_ok (μ 84)) (hy : μ 84 1 = nI y) (hy2 : y ≤ 10000) (hs : s < 4) (hn : n ≤ 40) (hlen : μ 99 s = nI n) (h : ∀ μ', q_fr μ μ' → (∀ j, μ' 84 j = if j < 75 then μ 86 j else μ 84 j) → R (some (.int (q_b (q_unt (μ 84) (fun j => μ 100 (40 * s + j)) 0 n = n)))) μ') : gc_S (d + 7) 227 [.ref 83, .int (nI s)] μ R := by
  simp only [s227, u227_0, u227_1, u227_2, u227_3, u227_5, u227_6, u227_9, u227_10, u227_11, u227_14, u227_15, u227_18, u227_19, u227_22, u227_23, u227_26, u227_28, u227_29, u227_30, u227_31, u227_32, u227_33, u227_34, u227_37, u227_40, u227_41, u227_44, u227_45, u227_46, u227_49, u227_53, u227_56, u227_57, ly_kd, ly_al, ly_fv0, ly_fv1, ly_fv2, ly_fv3, ly_fv4, ly_fk, ly_ra, Option.toList, List.cons_append, List.nil_append, q_ski, q_skr, q_sku, if_true, if_false]
  have vs : vp_in (nI s) 4 := vp_in_nI hs (by decide)
  have cs : (nI s).toNatClampNeg = s := nI_clamp (by omega)
  have fin : ∀ b c μ1 l3, b = q_b (q_unt (μ 84) (fun j => μ 100 (40 * s + j)) 0 n = n) → c ≤ 40 → q_fr μ μ1 → μ1 84 = q_yrs (μ 84) c → gc_W (gc_S (d+6)) cX12_isTold 12 1 R 52 [.ref 83, .int (nI s), .int b, l3] [] μ1 := by
    intro b c μ1 l3 hb hc f1 hD
    simp only [u227_0, u227_1, u227_2, u227_3, u227_5, u227_6, u227_9, u227_10, u227_11, u227_14, u227_15, u227_18, u227_19, u227_22, u227_23, u227_26, u227_28, u227_29, u227_30, u227_31, u227_32, u227_33, u227_34, u227_37, u227_40, u227_41, u227_44, u227_45, u227_46, u227_49, u227_52, u227_53, u227_56, u227_57, ly_kd, ly_al, ly_fv0, ly_fv1, ly_fv2, ly_fv3, ly_fv4, ly_fk, ly_ra, Option.toList, List.cons_append, List.nil_append, q_ski, q_skr, q_sku, if_true, if_false, m_putBack]
    rw [hb]
    unfold q_b
    have hh := h (gc_cp μ1 86 84 0 0 75) (fun o a b c d => by rw [gc_cp_ne a]; exact f1 o a b c d) (fun j => by
      rw [gc_cp_eq]
      by_cases hj : j < 75
      · rw [if_pos hj, pk_cpy_in (by omega) (by omega), show 0 + (j - 0) = j by omega, f1 86 (by omega) (by omega) (by omega) (by omega)]
      · rw [if_neg hj, pk_cpy_out (by omega), hD]
        exact q_yrs_hi hok hy (by omega) c (by omega))
    unfold q_b at hh
    by_cases e : q_unt (μ 84) (fun j => μ 100 (40 * s + j)) 0 n = n
    · rw [if_pos e] at hh ⊢
      exact ⟨Or.inr rfl, hh⟩
    · rw [if_neg e] at hh ⊢
      exact ⟨Or.inl rfl, hh⟩
  have main : ∀ m c, c + m = n → q_unt (μ 84) (fun j => μ 100 (40 * s + j)) 0 n = q_unt (μ 84) (fun j => μ 100 (40 * s + j)) c m → ∀ μ1, q_fr μ μ1 → μ1 84 = q_yrs (μ 84) c → gc_W (gc_S (d+6)) cX12_isTold 12 1 R 4 [.ref 83, .int (nI s), .int 1, .int (nI c)] [] μ1 := by
    intro m
    induction m with
    | zero =>
      intro c hc hq μ1 f1 hD
      obtain rfl : c = n := hc
      have e1 : μ1 99 s = nI c := by rw [f1 99 (by omega) (by omega) (by omega) (by omega), hlen]
      refine (u227_4).mpr ?_
      simp only [u227_0, u227_1, u227_2, u227_3, u227_5, u227_6, u227_9, u227_10, u227_11, u227_14, u227_15, u227_18, u227_19, u227_22, u227_23, u227_26, u227_28, u227_29, u227_30, u227_31, u227_32, u227_33, u227_34, u227_37, u227_40, u227_41, u227_44, u227_45, u227_46, u227_49, u227_53, u227_56, u227_57, ly_kd, ly_al, ly_fv0, ly_fv1, ly_fv2, ly_fv3, ly_fv4, ly_fk, ly_ra, Option.toList, List.cons_append, List.nil_append, q_ski, q_skr, q_sku, if_true, if_false, vs, cs, e1, show nI c ≤ nI c from Int32.le_refl _, true_and]
      exact fin 1 c μ1 _ (by rw [hq]; exact (if_pos rfl).symm) (by omega) f1 hD
    | succ m ih =>
      intro c hc hq μ1 f1 hD
      have e1 : μ1 99 s = nI n := by rw [f1 99 (by omega) (by omega) (by omega) (by omega), hlen]
      refine (u227_4).mpr ?_
      simp only [u227_0, u227_1, u227_2, u227_3, u227_5, u227_6, u227_9, u227_10, u227_11, u227_14, u227_15, u227_18, u227_19, u227_22, u227_23, u227_26, u227_28, u227_29, u227_30, u227_31, u227_32, u227_33, u227_34, u227_37, u227_40, u227_41, u227_44, u227_45, u227_46, u227_49, u227_53, u227_56, u227_57, ly_kd, ly_al, ly_fv0, ly_fv1, ly_fv2, ly_fv3, ly_fv4, ly_fk, ly_ra, Option.toList, List.cons_append, List.nil_append, q_ski, q_skr, q_sku, if_true, if_false, vs, cs, e1, q_nle (show c < n by omega) (by omega) rfl, true_and, show ¬ (1 : Int32) = 0 by decide]
      refine m_yearGoes (by rw [hD]; exact (q_ok_yrs hok hy c (by omega)).1) (fun μ2 f2 hD2 => ?_)
      have f3 := f1.tr f2
      have hD3 : μ2 84 = q_yrs (μ 84) (c + 1) := by rw [hD2, hD]; rfl
      have e2 : μ2 100 (40 * s + c) = μ 100 (40 * s + c) := by rw [f3 100 (by omega) (by omega) (by omega) (by omega)]
      simp only [u227_0, u227_1, u227_2, u227_3, u227_5, u227_6, u227_9, u227_10, u227_11, u227_14, u227_15, u227_18, u227_19, u227_22, u227_23, u227_26, u227_28, u227_29, u227_30, u227_31, u227_32, u227_33, u227_34, u227_37, u227_40, u227_41, u227_44, u227_45, u227_46, u227_49, u227_53, u227_56, u227_57, ly_kd, ly_al, ly_fv0, ly_fv1, ly_fv2, ly_fv3, ly_fv4, ly_fk, ly_ra, Option.toList, List.cons_append, List.nil_append, q_ski, q_skr, q_sku, if_true, if_false, q_40, vp_in_nI (show 40 * s + c < 160 by omega) (by decide), nI_clamp (show 40 * s + c < 2 ^ 31 by omega), true_and, m_allWet, e2, hD3]
      have hq' : q_unt (μ 84) (fun j => μ 100 (40 * s + j)) c (m + 1) = if μ 100 (40 * s + c) = q_sum (fun i => q_yrs (μ 84) (c + 1) (5 + 1 * i)) 16 then q_unt (μ 84) (fun j => μ 100 (40 * s + j)) (c + 1) m else c := rfl
      rw [hq'] at hq
      by_cases he : μ 100 (40 * s + c) = q_sum (fun i => q_yrs (μ 84) (c + 1) (5 + 1 * i)) 16
      · rw [if_pos he] at hq
        simp only [he, if_true, u227_0, u227_1, u227_2, u227_3, u227_5, u227_6, u227_9, u227_10, u227_11, u227_14, u227_15, u227_18, u227_19, u227_22, u227_23, u227_26, u227_28, u227_29, u227_30, u227_31, u227_32, u227_33, u227_34, u227_37, u227_40, u227_41, u227_44, u227_45, u227_46, u227_49, u227_53, u227_56, u227_57, ly_kd, ly_al, ly_fv0, ly_fv1, ly_fv2, ly_fv3, ly_fv4, ly_fk, ly_ra, Option.toList, List.cons_append, List.nil_append, q_ski, q_skr, q_sku, if_true, if_false, nI_1]
        exact ih (c + 1) (by omega) hq μ2 f3 hD3
      · rw [if_neg he] at hq
        simp only [he, if_false, u227_0, u227_1, u227_2, u227_3, u227_5, u227_6, u227_9, u227_10, u227_11, u227_14, u227_15, u227_18, u227_19, u227_22, u227_23, u227_26, u227_28, u227_29, u227_30, u227_31, u227_32, u227_33, u227_34, u227_37, u227_40, u227_41, u227_44, u227_45, u227_46, u227_49, u227_53, u227_56, u227_57, ly_kd, ly_al, ly_fv0, ly_fv1, ly_fv2, ly_fv3, ly_fv4, ly_fk, ly_ra, Option.toList, List.cons_append, List.nil_append, q_ski, q_skr, q_sku, if_true, if_false, nI_1]
        refine (u227_4).mpr ?_
        have e3 : μ2 99 s = nI n := by rw [f3 99 (by omega) (by omega) (by omega) (by omega), hlen]
        have hb : (0 : Int32) = q_b (q_unt (μ 84) (fun j => μ 100 (40 * s + j)) 0 n = n) := by rw [hq]; exact (if_neg (by omega)).symm
        simp only [u227_0, u227_1, u227_2, u227_3, u227_5, u227_6, u227_9, u227_10, u227_11, u227_14, u227_15, u227_18, u227_19, u227_22, u227_23, u227_26, u227_28, u227_29, u227_30, u227_31, u227_32, u227_33, u227_34, u227_37, u227_40, u227_41, u227_44, u227_45, u227_46, u227_49, u227_53, u227_56, u227_57, ly_kd, ly_al, ly_fv0, ly_fv1, ly_fv2, ly_fv3, ly_fv4, ly_fk, ly_ra, Option.toList, List.cons_append, List.nil_append, q_ski, q_skr, q_sku, if_true, if_false, vs, cs, e3, true_and]
        have := fin 0 (c + 1) μ2 (.int (nI (c + 1))) hb (by omega) f3 hD3
        split
        · exact this
        · exact this
  exact main n 0 (by omega) rfl μ q_fr.rf rfl
/-- what is true of each v that is supposed at the place w -/
def q_tv (D f : Nat → Int32) (w n v : Nat) : Bool := decide (q_unt (upd D w (nI v)) f 0 n = n)
/-- between the trials all is put aside and back -/
def q_td (μ μ1 : gM) : Prop := q_f2 μ μ1 ∧ ∀ j, j < 75 → μ1 86 j = μ 84 j
theorem m_trial {d : Nat} {R : gR} {μ μ1 : gM} {s n y w v : Nat} (hok : q_ok (upd (μ 84) w (nI v))) (hw : 1 < w ∧ w < 75) (hy : μ 84 1 = nI y) (hy2 : y ≤ 10000) (hs : s < 4) (hn : n ≤ 40) (hlen : μ 99 s = nI n) (t : q_td μ μ1) (h : ∀ μ', q_td μ μ' → R (some (.int (q_b (q_tv (μ 84) (fun j => μ 100 (40 * s + j)) w n v = true)))) μ') : gc_S (d + 7) 227 [.ref 83, .int (nI s)] (gc_up μ1 84 w (nI v)) R := by
  obtain ⟨f1, a1⟩ := t
  have e84 : gc_up μ1 84 w (nI v) 84 = upd (μ 84) w (nI v) := by rw [gc_up_eq, f1 84 (by omega) (by omega) (by omega) (by omega)]
  have eo : ∀ o, o ≠ 84 → gc_up μ1 84 w (nI v) o = μ1 o := fun o ho => gc_up_ne ho
  have e100 : gc_up μ1 84 w (nI v) 100 = μ 100 := by rw [eo _ (by omega), f1 100 (by omega) (by omega) (by omega) (by omega)]
  refine m_isTold (n := n) (y := y) (by rw [e84]; exact hok) (by rw [e84]; exact (if_neg (by omega)).trans hy) hy2 hs hn (by rw [eo _ (by omega), f1 99 (by omega) (by omega) (by omega) (by omega), hlen]) (fun μ2 f2 hD => ?_)
  rw [e84, e100]
  have := h μ2 ⟨fun o b1 b2 b3 b4 => ?_, fun j hj => ?_⟩
  · unfold q_tv at this
    unfold q_b at this ⊢
    by_cases e : q_unt (upd (μ 84) w (nI v)) (fun j => μ 100 (40 * s + j)) 0 n = n
    · rw [if_pos (decide_eq_true e)] at this
      rw [if_pos e]; exact this
    · rw [if_neg (by rw [decide_eq_false e]; decide)] at this
      rw [if_neg e]; exact this
  · by_cases e : o = 84
    · subst e
      funext j
      rw [hD j, e84, eo _ (by omega)]
      by_cases hj : j < 75
      · rw [if_pos hj, a1 j hj]
      · rw [if_neg hj]; exact if_neg (by omega)
    · rw [f2 o e b2 b3 b4, eo o e]
      exact f1 o b1 b2 b3 b4
  · rw [f2 86 (by omega) (by omega) (by omega) (by omega), eo _ (by omega)]
    exact a1 j hj
theorem q_td0 {μ : gM} : q_td μ (gc_cp μ 84 86 0 0 75) := ⟨fun o a _ _ _ => gc_cp_ne a, fun j hj => by rw [gc_cp_eq, pk_cpy_in (by omega) (by omega), show 0 + (j - 0) = j by omega]⟩
theorem q_43s {i : Nat} : (43 : Int32) + 4 * nI i + 2 = nI (45 + 4 * i) := by rw [q_43, show (2 : Int32) = nI 2 from rfl, nI_add]; congr 1; omega
theorem q_43z {i : Nat} : (43 : Int32) + 4 * nI i + 0 = nI (43 + 4 * i) := by rw [q_43, show (0 : Int32) = nI 0 from rfl, nI_add]; congr 1
theorem m_which {d : Nat} {R : gR} {μ : gM} {s k : Int32} {y : Nat} (hok : q_ok (μ 84)) (hy : μ 84 1 = nI y) (hy2 : y ≤ 10000) (hsz : ∀ s, s < 4 → ∃ n, μ 99 s = nI n ∧ n ≤ 40) (h : if (0 ≤ s ∧ s ≤ 3) ∧ 0 ≤ k ∧ k ≤ μ 84 0 - 1 then (if μ 98 s.toNatClampNeg = 0 then R (some (.int (-1000000002))) (gc_up μ 87 2 (μ 87 2 + 1)) else ∀ μ', q_f2 μ μ' → R (some (.int (q_set (q_tv (μ 84) (fun j => μ 100 (40 * s.toNatClampNeg + j)) (43 + 4 * k.toNatClampNeg) (μ 99 s.toNatClampNeg).toNatClampNeg) 7))) μ') else R (some (.int (-1000000001))) (gc_up μ 87 1 (μ 87 1 + 1))) : gc_S (d + 8) 229 [.ref 83, .int s, .int k] μ R := by
  simp only [s229, u229_0, u229_1, u229_4, u229_7, u229_8, u229_9, u229_12, u229_15, u229_16, u229_17, u229_20, u229_21, u229_22, u229_25, u229_26, u229_27, u229_30, u229_31, u229_32, u229_35, u229_36, u229_37, u229_40, u229_41, u229_42, u229_43, u229_47, u229_49, u229_52, u229_53, u229_54, u229_55, u229_57, u229_60, u229_61, u229_62, u229_63, u229_66, u229_69, u229_70, u229_72, u229_73, u229_76, u229_77, u229_78, u229_79, u229_82, u229_85, u229_86, ly_kd, ly_al, ly_fv0, ly_fv1, ly_fv2, ly_fv3, ly_fv4, ly_fk, ly_ra, Option.toList, List.cons_append, List.nil_append, q_ski, q_skr, q_sku, if_true, if_false, m_isSheet, m_isMourner, m_f1, m_f2, m_keepAside, q_b0, q_not]
  by_cases h1 : 0 ≤ s ∧ s ≤ 3
  · by_cases h2 : 0 ≤ k ∧ k ≤ μ 84 0 - 1
    · rw [if_pos ⟨h1, h2⟩] at h
      simp only [h1, h2, and_self, if_true]
      obtain ⟨i, m, rfl, hi, hm, hm0⟩ := q_mrn hok h2
      obtain ⟨s, hs, rfl⟩ := q_rng (n := 3) rfl h1
      obtain ⟨n, hn, hn4⟩ := hsz s (by omega)
      rw [nI_clamp (by omega), nI_clamp (by omega), hn, nI_clamp (by omega)] at h
      have vs : vp_in (nI s) 4 := vp_in_nI (by omega) (by decide)
      have cs : (nI s).toNatClampNeg = s := nI_clamp (by omega)
      simp only [vs, cs, true_and]
      by_cases h3 : μ 98 s = 0
      · rw [if_pos h3] at h
        simp only [h3, if_true]
        exact h
      · rw [if_neg h3] at h
        simp only [h3, if_false]
        have vi : vp_in (nI (43 + 4 * i)) 247 := vp_in_nI (by omega) (by decide)
        have ci : (nI (43 + 4 * i)).toNatClampNeg = 43 + 4 * i := nI_clamp (by omega)
        have main : ∀ m c, c + m = 7 → ∀ μ1, q_td μ μ1 → gc_W (gc_S (d+7)) cX12_which 12 0 R 45 [.ref 83, .int (nI s), .int (nI i), .int (q_set (q_tv (μ 84) (fun j => μ 100 (40 * s + j)) (43 + 4 * i) n) c), .int (nI c)] [] μ1 := by
          intro m
          induction m with
          | zero =>
            intro c hc μ1 t1
            obtain rfl : c = 7 := hc
            refine (u229_45).mpr ?_
            simp only [u229_0, u229_1, u229_4, u229_7, u229_8, u229_9, u229_12, u229_15, u229_16, u229_17, u229_20, u229_21, u229_22, u229_25, u229_26, u229_27, u229_30, u229_31, u229_32, u229_35, u229_36, u229_37, u229_40, u229_41, u229_42, u229_43, u229_47, u229_49, u229_52, u229_53, u229_54, u229_55, u229_57, u229_60, u229_61, u229_62, u229_63, u229_66, u229_69, u229_70, u229_72, u229_73, u229_76, u229_77, u229_78, u229_79, u229_82, u229_85, u229_86, show (6 : Int32) < nI 7 by decide, if_true]
            exact h μ1 t1.1
          | succ m ih =>
            intro c hc μ1 t1
            have c7 : ¬ (6 : Int32) < nI c := nI_nlt (show c ≤ 6 by omega) (by decide)
            refine (u229_45).mpr ?_
            simp only [u229_0, u229_1, u229_4, u229_7, u229_8, u229_9, u229_12, u229_15, u229_16, u229_17, u229_20, u229_21, u229_22, u229_25, u229_26, u229_27, u229_30, u229_31, u229_32, u229_35, u229_36, u229_37, u229_40, u229_41, u229_42, u229_43, u229_47, u229_49, u229_52, u229_53, u229_54, u229_55, u229_57, u229_60, u229_61, u229_62, u229_63, u229_66, u229_69, u229_70, u229_72, u229_73, u229_76, u229_77, u229_78, u229_79, u229_82, u229_85, u229_86, c7, if_false, ly_kd, ly_al, ly_fv0, ly_fv1, ly_fv2, ly_fv3, ly_fv4, ly_fk, ly_ra, Option.toList, List.cons_append, List.nil_append, q_ski, q_skr, q_sku, if_true, if_false, m_sets, q_43z, vi, ci, true_and]
            refine m_trial (v := c) (w := 43 + 4 * i) (q_ok_upd hok (by omega) (fun _ => by omega) (fun _ _ => by omega) (fun _ _ => by omega) (fun _ _ => by omega) (fun _ _ => by omega)) (by omega) hy hy2 (by omega) hn4 hn t1 (fun μ2 t2 => ?_)
            have es : q_set (q_tv (μ 84) (fun j => μ 100 (40 * s + j)) (43 + 4 * i) n) (c + 1) = q_set (q_tv (μ 84) (fun j => μ 100 (40 * s + j)) (43 + 4 * i) n) c ||| (if q_tv (μ 84) (fun j => μ 100 (40 * s + j)) (43 + 4 * i) n c = true then (1 : Int32) <<< (nI c &&& 31) else 0) := rfl
            have nx := ih (c + 1) (by omega) μ2 t2
            rw [es] at nx
            by_cases e : q_tv (μ 84) (fun j => μ 100 (40 * s + j)) (43 + 4 * i) n c = true
            · rw [if_pos e] at nx
              simp only [u229_0, u229_1, u229_4, u229_7, u229_8, u229_9, u229_12, u229_15, u229_16, u229_17, u229_20, u229_21, u229_22, u229_25, u229_26, u229_27, u229_30, u229_31, u229_32, u229_35, u229_36, u229_37, u229_40, u229_41, u229_42, u229_43, u229_47, u229_49, u229_52, u229_53, u229_54, u229_55, u229_57, u229_60, u229_61, u229_62, u229_63, u229_66, u229_69, u229_70, u229_72, u229_73, u229_76, u229_77, u229_78, u229_79, u229_82, u229_85, u229_86, q_b0, e, not_true_eq_false, ly_kd, ly_al, ly_fv0, ly_fv1, ly_fv2, ly_fv3, ly_fv4, ly_fk, ly_ra, Option.toList, List.cons_append, List.nil_append, q_ski, q_skr, q_sku, if_true, if_false, nI_1]
              exact nx
            · rw [if_neg e] at nx
              simp only [u229_0, u229_1, u229_4, u229_7, u229_8, u229_9, u229_12, u229_15, u229_16, u229_17, u229_20, u229_21, u229_22, u229_25, u229_26, u229_27, u229_30, u229_31, u229_32, u229_35, u229_36, u229_37, u229_40, u229_41, u229_42, u229_43, u229_47, u229_49, u229_52, u229_53, u229_54, u229_55, u229_57, u229_60, u229_61, u229_62, u229_63, u229_66, u229_69, u229_70, u229_72, u229_73, u229_76, u229_77, u229_78, u229_79, u229_82, u229_85, u229_86, q_b0, e, not_false_eq_true, ly_kd, ly_al, ly_fv0, ly_fv1, ly_fv2, ly_fv3, ly_fv4, ly_fk, ly_ra, Option.toList, List.cons_append, List.nil_append, q_ski, q_skr, q_sku, if_true, if_false, nI_1]
              exact nx
        exact main 7 0 rfl _ q_td0
    · rw [if_neg (fun q => h2 q.2)] at h
      simp only [h1, h2, and_self, if_true, if_false]
      exact h
  · rw [if_neg (fun q => h1 q.1)] at h
    simp only [h1, if_false]
    exact h
