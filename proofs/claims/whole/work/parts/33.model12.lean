theorem q_ok_upd {D : Nat → Int32} (hok : q_ok D) {w v : Nat} (hw : 37 ≤ w ∧ w < 75) (h0 : w < 43 → v ≤ 7) (h1 : 43 ≤ w → (w - 43) % 4 = 0 → v ≤ 6) (h2 : 43 ≤ w → (w - 43) % 4 = 1 → v ≤ 9) (h3 : 43 ≤ w → (w - 43) % 4 = 2 → v ≤ 99) (h4 : 43 ≤ w → (w - 43) % 4 = 3 → v ≤ 15) : q_ok (upd D w (nI v)) := by
  obtain ⟨⟨n, hn, hn8⟩, ⟨y, hy, hy2⟩, hwet, htorn, hlist, hm, hwf⟩ := hok
  have o : ∀ j, j ≠ w → upd D w (nI v) j = D j := fun j hj => if_neg hj
  have s : upd D w (nI v) w = nI v := if_pos rfl
  have g : ∀ j K, (∃ x, D j = nI x ∧ x ≤ K) → (j = w → v ≤ K) → ∃ x, upd D w (nI v) j = nI x ∧ x ≤ K := by
    intro j K hj hK
    by_cases e : j = w
    · subst e; exact ⟨v, s, hK rfl⟩
    · rw [o j e]; exact hj
  refine ⟨⟨n, by rw [o _ (by omega)]; exact hn, hn8⟩, ⟨y, by rw [o _ (by omega)]; exact hy, hy2⟩, fun c hc => by rw [o _ (by omega)]; exact hwet c hc, fun c hc => by rw [o _ (by omega)]; exact htorn c hc, fun p hp => g _ _ (hlist p hp) (fun e => h0 (by omega)), fun i hi => ?_, fun u hu => ?_⟩
  · obtain ⟨k1, k2, k3, k4⟩ := hm i hi
    exact ⟨g _ _ k1 (fun e => h1 (by omega) (by omega)), g _ _ k2 (fun e => h2 (by omega) (by omega)), g _ _ k3 (fun e => h3 (by omega) (by omega)), g _ _ k4 (fun e => h4 (by omega) (by omega))⟩
  · obtain ⟨k, hk, hk2⟩ := hwf u hu
    refine ⟨k, by rw [o _ (by omega)]; exact hk, ?_⟩
    have : q_code (upd D w (nI v)) u = q_code D u := funext fun j => o _ (by omega)
    rw [this]; exact hk2
theorem q_43 {i : Nat} : (43 : Int32) + 4 * nI i = nI (43 + 4 * i) := by rw [show (4 : Int32) = nI 4 from rfl, pk_mul, show (43 : Int32) = nI 43 from rfl, nI_add]
theorem m_cellFor {d : Nat} {R : gR} {μ : gM} {k n : Int32} {y : Nat} (hok : q_ok (μ 84)) (hy : μ 84 1 = nI y) (hy2 : y ≤ 10000) (h : if (0 ≤ k ∧ k ≤ μ 84 0 - 1) ∧ 0 ≤ n ∧ n ≤ 60 then ∀ μ', q_f2 μ μ' → R (some (.int (q_bst (μ 84) (46 + 4 * k.toNatClampNeg) n.toNatClampNeg 16).1)) μ' else R (some (.int (-1000000001))) (gc_up μ 87 1 (μ 87 1 + 1))) : gc_S (d + 10) 210 [.ref 83, .int k, .int n] μ R := by
  simp only [s210, u210_0, u210_1, u210_2, u210_5, u210_8, u210_9, u210_12, u210_15, u210_16, u210_18, u210_19, u210_20, u210_21, u210_22, u210_23, u210_24, u210_26, u210_27, u210_30, u210_33, u210_34, u210_35, u210_38, ly_kd, ly_al, ly_fv0, ly_fv1, ly_fv2, ly_fv3, ly_fv4, ly_fk, ly_ra, Option.toList, List.cons_append, List.nil_append, q_ski, q_skr, q_sku, if_true, if_false, m_isMourner, m_isAhead, m_f1, q_b0, q_not]
  by_cases h1 : 0 ≤ k ∧ k ≤ μ 84 0 - 1
  · by_cases h2 : 0 ≤ n ∧ n ≤ 60
    · rw [if_pos ⟨h1, h2⟩] at h
      simp only [h1, h2, and_self, if_true]
      obtain ⟨i, m, rfl, hi, hm, -⟩ := q_mrn hok h1
      obtain ⟨j, hj, rfl⟩ := q_rng (n := 60) rfl h2
      rw [nI_clamp (by omega), nI_clamp (by omega)] at h
      rw [show (43 : Int32) + 4 * nI i + 3 = nI (46 + 4 * i) by rw [q_43, show (3 : Int32) = nI 3 from rfl, nI_add]; congr 1; omega]
      refine m_bestOf (most := 15) hy hy2 hj (by omega) (by omega) (fun v hv => q_ok_upd hok (by omega) (fun _ => by omega) (fun _ _ => by omega) (fun _ _ => by omega) (fun _ _ => by omega) (fun _ _ => by omega)) (fun μ1 hμ => ?_)
      simp only [u210_0, u210_1, u210_2, u210_5, u210_8, u210_9, u210_12, u210_15, u210_16, u210_18, u210_19, u210_20, u210_21, u210_22, u210_23, u210_24, u210_26, u210_27, u210_30, u210_33, u210_34, u210_35, u210_38, ly_kd, ly_al, ly_fv0, ly_fv1, ly_fv2, ly_fv3, ly_fv4, ly_fk, ly_ra, Option.toList, List.cons_append, List.nil_append, q_ski, q_skr, q_sku, if_true, if_false]
      exact h μ1 hμ
    · rw [if_neg (fun q => h2 q.2)] at h
      simp only [h1, h2, and_self, if_true, if_false]
      exact h
  · rw [if_neg (fun q => h1 q.1)] at h
    simp only [h1, if_false]
    exact h
theorem m_comesFor {d : Nat} {R : gR} {μ : gM} {p n : Int32} {y : Nat} (hok : q_ok (μ 84)) (hy : μ 84 1 = nI y) (hy2 : y ≤ 10000) (h : if (0 ≤ p ∧ p ≤ 5) ∧ 0 ≤ n ∧ n ≤ 60 then ∀ μ', q_f2 μ μ' → R (some (.int (q_bst (μ 84) (37 + p.toNatClampNeg) n.toNatClampNeg 8).1)) μ' else R (some (.int (-1000000001))) (gc_up μ 87 1 (μ 87 1 + 1))) : gc_S (d + 10) 211 [.ref 83, .int p, .int n] μ R := by
  simp only [s211, u211_0, u211_1, u211_2, u211_3, u211_6, u211_9, u211_12, u211_13, u211_16, u211_19, u211_20, u211_22, u211_23, u211_24, u211_26, u211_27, u211_30, u211_33, u211_34, u211_35, u211_38, ly_kd, ly_al, ly_fv0, ly_fv1, ly_fv2, ly_fv3, ly_fv4, ly_fk, ly_ra, Option.toList, List.cons_append, List.nil_append, q_ski, q_skr, q_sku, if_true, if_false, m_in, m_isAhead, m_f1, q_b0, q_not, q_wl0, q_wl1, q_wl48, q_wu1, q_wu2, q_wu3, q_wu5, q_wu6, q_wu7, q_wu8, q_wu15, q_wu30, q_wu40, q_wu57, q_wu60, q_wu69, q_wu99, q_wu1584, fa_wide_le]
  by_cases h1 : 0 ≤ p ∧ p ≤ 5
  · by_cases h2 : 0 ≤ n ∧ n ≤ 60
    · rw [if_pos ⟨h1, h2⟩] at h
      simp only [h1, h2, and_self, if_true]
      obtain ⟨i, hi, rfl⟩ := q_rng (n := 5) rfl h1
      obtain ⟨j, hj, rfl⟩ := q_rng (n := 60) rfl h2
      rw [nI_clamp (by omega), nI_clamp (by omega)] at h
      rw [show (37 : Int32) + nI i = nI (37 + i) from nI_add 37 i]
      refine m_bestOf (most := 7) hy hy2 hj (by omega) (by omega) (fun v hv => q_ok_upd hok (by omega) (fun _ => by omega) (fun _ _ => by omega) (fun _ _ => by omega) (fun _ _ => by omega) (fun _ _ => by omega)) (fun μ1 hμ => ?_)
      simp only [u211_0, u211_1, u211_2, u211_3, u211_6, u211_9, u211_12, u211_13, u211_16, u211_19, u211_20, u211_22, u211_23, u211_24, u211_26, u211_27, u211_30, u211_33, u211_34, u211_35, u211_38, ly_kd, ly_al, ly_fv0, ly_fv1, ly_fv2, ly_fv3, ly_fv4, ly_fk, ly_ra, Option.toList, List.cons_append, List.nil_append, q_ski, q_skr, q_sku, if_true, if_false]
      exact h μ1 hμ
    · rw [if_neg (fun q => h2 q.2)] at h
      simp only [h1, h2, and_self, if_true, if_false]
      exact h
  · rw [if_neg (fun q => h1 q.1)] at h
    simp only [h1, if_false]
    exact h
theorem m_kindFor {d : Nat} {R : gR} {μ : gM} {k n : Int32} {y : Nat} (hok : q_ok (μ 84)) (hy : μ 84 1 = nI y) (hy2 : y ≤ 10000) (h : if (0 ≤ k ∧ k ≤ μ 84 0 - 1) ∧ 0 ≤ n ∧ n ≤ 60 then ∀ μ', q_f2 μ μ' → R (some (.int (q_bst (μ 84) (43 + 4 * k.toNatClampNeg) n.toNatClampNeg 7).1)) μ' else R (some (.int (-1000000001))) (gc_up μ 87 1 (μ 87 1 + 1))) : gc_S (d + 10) 212 [.ref 83, .int k, .int n] μ R := by
  simp only [s212, u212_0, u212_1, u212_2, u212_5, u212_8, u212_9, u212_12, u212_15, u212_16, u212_18, u212_19, u212_20, u212_21, u212_22, u212_24, u212_25, u212_28, u212_31, u212_32, u212_33, u212_36, ly_kd, ly_al, ly_fv0, ly_fv1, ly_fv2, ly_fv3, ly_fv4, ly_fk, ly_ra, Option.toList, List.cons_append, List.nil_append, q_ski, q_skr, q_sku, if_true, if_false, m_isMourner, m_isAhead, m_f1, q_b0, q_not]
  by_cases h1 : 0 ≤ k ∧ k ≤ μ 84 0 - 1
  · by_cases h2 : 0 ≤ n ∧ n ≤ 60
    · rw [if_pos ⟨h1, h2⟩] at h
      simp only [h1, h2, and_self, if_true]
      obtain ⟨i, m, rfl, hi, hm, -⟩ := q_mrn hok h1
      obtain ⟨j, hj, rfl⟩ := q_rng (n := 60) rfl h2
      rw [nI_clamp (by omega), nI_clamp (by omega)] at h
      rw [q_43]
      refine m_bestOf (most := 6) hy hy2 hj (by omega) (by omega) (fun v hv => q_ok_upd hok (by omega) (fun _ => by omega) (fun _ _ => by omega) (fun _ _ => by omega) (fun _ _ => by omega) (fun _ _ => by omega)) (fun μ1 hμ => ?_)
      simp only [u212_0, u212_1, u212_2, u212_5, u212_8, u212_9, u212_12, u212_15, u212_16, u212_18, u212_19, u212_20, u212_21, u212_22, u212_24, u212_25, u212_28, u212_31, u212_32, u212_33, u212_36, ly_kd, ly_al, ly_fv0, ly_fv1, ly_fv2, ly_fv3, ly_fv4, ly_fk, ly_ra, Option.toList, List.cons_append, List.nil_append, q_ski, q_skr, q_sku, if_true, if_false]
      exact h μ1 hμ
    · rw [if_neg (fun q => h2 q.2)] at h
      simp only [h1, h2, and_self, if_true, if_false]
      exact h
  · rw [if_neg (fun q => h1 q.1)] at h
    simp only [h1, if_false]
    exact h
