theorem q_hd_r (v : Int32) : ∃ w, q_hd v = nI w ∧ w ≤ 99 := by
  unfold q_hd
  by_cases h : v < 0
  · exact ⟨0, by rw [if_pos h]; rfl, by omega⟩
  · rw [if_neg h]
    by_cases h2 : 99 < v
    · exact ⟨99, by rw [if_pos h2]; rfl, by omega⟩
    · rw [if_neg h2]
      obtain ⟨j, hj, rfl⟩ := q_rng (n := 99) (K := 99) (by decide) ⟨Int32.not_lt.mp h, Int32.not_lt.mp h2⟩
      exact ⟨j, rfl, hj⟩
theorem q_weep_at {D : Nat → Int32} {i j c : Nat} (hc : D (46 + 4 * i) = nI c) (hc2 : c < 16) (h1 : j < 5 ∨ 21 ≤ j) (h2 : j ≠ 45 + 4 * i) : q_weep D i j = D j := by
  unfold q_weep
  rw [hc, nI_clamp (by omega)]
  unfold upd
  rw [if_neg h2]
  by_cases ht : D (21 + c) = 0
  · rw [if_pos ht, if_neg (by omega)]
  · rw [if_neg ht]
theorem q_weep_s {D : Nat → Int32} {i : Nat} : ∃ x, q_weep D i (45 + 4 * i) = q_hd x := by
  unfold q_weep
  exact ⟨_, by unfold upd; rw [if_pos rfl]⟩
theorem q_gri_s {D : Nat → Int32} : ∀ n i, i < n → ∃ x, q_gri D n (45 + 4 * i) = q_hd x
  | 0, i, h => absurd h (Nat.not_lt_zero i)
  | n + 1, i, h => by
    show ∃ x, upd (q_gri D n) (45 + 4 * n) _ (45 + 4 * i) = q_hd x
    unfold upd
    by_cases e : 45 + 4 * i = 45 + 4 * n
    · exact ⟨_, by rw [if_pos e]⟩
    · obtain ⟨x, hx⟩ := q_gri_s (D := D) n i (by omega)
      exact ⟨x, by rw [if_neg e]; exact hx⟩
theorem q_yr_at {D : Nat → Int32} (hok : q_ok D) {j : Nat} (h1 : j < 5 ∨ 21 ≤ j) (h2 : ∀ i, i < 8 → j ≠ 45 + 4 * i) : q_yr D j = if j = 1 then D 1 + 1 else D j := by
  obtain ⟨⟨n, hn, hn8⟩, ⟨y, hy, hy2⟩, hwet, htorn, hlist, hm, hwf⟩ := hok
  have hmod : D 1 - D 1 / 6 * 6 = nI (y % 6) := by rw [hy, show (6 : Int32) = nI 6 from rfl, pk_rem (by omega) (by decide) (by decide)]
  have hm6 : y % 6 < 6 := Nat.mod_lt _ (by decide)
  obtain ⟨w, hw, hw7⟩ := hlist (y % 6) hm6
  have hwho : q_who D = nI w := by unfold q_who; rw [hmod, nI_clamp (by omega), hw]
  have key : ∀ j, (j < 5 ∨ 21 ≤ j) → (∀ i, i < 8 → j ≠ 45 + 4 * i) → q_gri (q_dry (q_seep (if 0 ≤ q_who D ∧ q_who D ≤ D 0 - 1 then q_weep D (q_who D).toNatClampNeg else D))) (D 0).toNatClampNeg j = D j := by
    intro j h1 h2
    rw [hn, nI_clamp (by omega), q_gri_o n (fun i hi => h2 i (by omega))]
    unfold q_dry
    rw [if_neg (by omega)]
    unfold q_seep
    rw [if_neg (by omega)]
    by_cases hp : 0 ≤ q_who D ∧ q_who D ≤ nI n - 1
    · rw [if_pos hp, hwho, nI_clamp (by omega)]
      obtain ⟨-, -, -, c, hcv, hc⟩ := hm w (by omega)
      exact q_weep_at hcv (by omega) h1 (h2 w (by omega))
    · rw [if_neg hp]
  unfold q_yr
  unfold upd
  by_cases e : j = 1
  · rw [if_pos e, if_pos e, key 1 (by omega) (by omega)]
  · rw [if_neg e, if_neg e, key j h1 h2]
theorem q_yr_w {D : Nat → Int32} {j : Nat} (h : 5 ≤ j ∧ j < 21) : ∃ x, q_yr D j = q_hd x := by
  unfold q_yr
  unfold upd
  rw [if_neg (by omega), q_gri_o _ (fun i hi => by omega)]
  exact ⟨_, by unfold q_dry; rw [if_pos h]⟩
theorem q_yr_s {D : Nat → Int32} (hok : q_ok D) {i : Nat} (hi : i < 8) : (∃ x, q_yr D (45 + 4 * i) = q_hd x) ∨ q_yr D (45 + 4 * i) = D (45 + 4 * i) := by
  obtain ⟨⟨n, hn, hn8⟩, ⟨y, hy, hy2⟩, hwet, htorn, hlist, hm, hwf⟩ := hok
  have hmod : D 1 - D 1 / 6 * 6 = nI (y % 6) := by rw [hy, show (6 : Int32) = nI 6 from rfl, pk_rem (by omega) (by decide) (by decide)]
  have hm6 : y % 6 < 6 := Nat.mod_lt _ (by decide)
  obtain ⟨w, hw, hw7⟩ := hlist (y % 6) hm6
  have hwho : q_who D = nI w := by unfold q_who; rw [hmod, nI_clamp (by omega), hw]
  unfold q_yr
  unfold upd
  rw [if_neg (by omega), hn, nI_clamp (by omega)]
  by_cases hin : i < n
  · exact Or.inl (q_gri_s n i hin)
  · rw [q_gri_o n (fun i' hi' => by omega)]
    unfold q_dry
    rw [if_neg (by omega)]
    unfold q_seep
    rw [if_neg (by omega)]
    by_cases hp : 0 ≤ q_who D ∧ q_who D ≤ nI n - 1
    · rw [if_pos hp, hwho, nI_clamp (by omega)]
      by_cases e : i = w
      · subst e; exact Or.inl q_weep_s
      · obtain ⟨-, -, -, c, hcv, hc⟩ := hm w (by omega)
        exact Or.inr (q_weep_at hcv (by omega) (by omega) (by omega))
    · rw [if_neg hp]; exact Or.inr rfl
theorem q_ok_yr {D : Nat → Int32} {y : Nat} (hok : q_ok D) (hy : D 1 = nI y) (hy2 : y < 20000) : q_ok (q_yr D) ∧ q_yr D 1 = nI (y + 1) := by
  have at' := @q_yr_at D hok
  have a1 : q_yr D 1 = nI (y + 1) := by rw [at' (by omega) (by omega), if_pos rfl, hy, nI_1]
  have st := @q_yr_s D hok
  obtain ⟨⟨n, hn, hn8⟩, -, hwet, htorn, hlist, hm, hwf⟩ := hok
  refine ⟨⟨⟨n, ?_, hn8⟩, ⟨y + 1, a1, by omega⟩, fun c hc => ?_, fun c hc => ?_, fun p hp => ?_, fun i hi => ?_, fun u hu => ?_⟩, a1⟩
  · rw [at' (by omega) (by omega), if_neg (by omega), hn]
  · obtain ⟨x, hx⟩ := q_yr_w (D := D) (j := 5 + c) (by omega)
    rw [hx]; exact q_hd_r x
  · rw [at' (by omega) (by omega), if_neg (by omega)]; exact htorn c hc
  · rw [at' (by omega) (by omega), if_neg (by omega)]; exact hlist p hp
  · obtain ⟨k1, k2, k3, k4⟩ := hm i hi
    refine ⟨?_, ?_, ?_, ?_⟩
    · rw [at' (by omega) (by omega), if_neg (by omega)]; exact k1
    · rw [at' (by omega) (by omega), if_neg (by omega)]; exact k2
    · rcases st hi with ⟨x, hx⟩ | hx
      · rw [hx]; exact q_hd_r x
      · rw [hx]; exact k3
    · rw [at' (by omega) (by omega), if_neg (by omega)]; exact k4
  · obtain ⟨k, hk, hk2⟩ := hwf u hu
    refine ⟨k, by rw [at' (by omega) (by omega), if_neg (by omega)]; exact hk, ?_⟩
    have : q_code (q_yr D) u = q_code D u := funext fun j => by
      show q_yr D (97 + 50 * u + j) = D (97 + 50 * u + j)
      rw [at' (by omega) (by omega), if_neg (by omega)]
    rw [this]; exact hk2
theorem q_ok_yrs {D : Nat → Int32} {y : Nat} (hok : q_ok D) (hy : D 1 = nI y) : ∀ n, y + n ≤ 20000 → q_ok (q_yrs D n) ∧ q_yrs D n 1 = nI (y + n)
  | 0, _ => ⟨hok, hy⟩
  | n + 1, h => by
    obtain ⟨h1, h2⟩ := q_ok_yrs hok hy n (by omega)
    have hh : y + n < 20000 := by omega
    exact q_ok_yr h1 h2 hh
theorem m_yearsGo {d : Nat} {R : gR} {μ : gM} {n y : Nat} (hok : q_ok (μ 84)) (hy : μ 84 1 = nI y) (hn : y + n ≤ 20000) (h : ∀ μ', q_fr μ μ' → μ' 84 = q_yrs (μ 84) n → R none μ') : gc_S (d + 7) 182 [.ref 83, .int (nI n)] μ R := by
  simp only [s182, u182_0, u182_1, u182_3, u182_4, u182_7, u182_8, u182_11, u182_14, u182_17, Option.toList, List.cons_append, List.nil_append, q_ski, q_skr, q_sku, if_true, if_false]
  have main : (fun c : Nat => ∀ μ0 : gM, q_fr μ μ0 → μ0 84 = q_yrs (μ 84) c → gc_W (gc_S (d+6)) cX12_yearsGo 12 2 R 2 [.ref 83, .int (nI n), .int (nI c)] [] μ0) 0 := by
    refine q_down (X := fun c : Nat => ∀ μ0 : gM, q_fr μ μ0 → μ0 84 = q_yrs (μ 84) c → gc_W (gc_S (d+6)) cX12_yearsGo 12 2 R 2 [.ref 83, .int (nI n), .int (nI c)] [] μ0) n ?_ ?_
    · intro μ0 h0 hD
      refine (u182_2).mpr ?_
      simp only [u182_0, u182_1, u182_3, u182_4, u182_7, u182_8, u182_11, u182_14, u182_17, show nI n ≤ nI n from Int32.le_refl _, Option.toList, List.cons_append, List.nil_append, q_ski, q_skr, q_sku, if_true, if_false]
      exact h μ0 h0 hD
    · intro c hc ih μ0 h0 hD
      refine (u182_2).mpr ?_
      simp only [u182_0, u182_1, u182_3, u182_4, u182_7, u182_8, u182_11, u182_14, u182_17, q_nle hc (by omega) rfl, ly_kd, ly_al, ly_fv0, ly_fv1, ly_fv2, ly_fv3, ly_fv4, ly_fk, ly_ra, Option.toList, List.cons_append, List.nil_append, q_ski, q_skr, q_sku, if_true, if_false]
      have hok1 : q_ok (μ0 84) := by rw [hD]; exact (q_ok_yrs hok hy c (by omega)).1
      refine m_yearGoes hok1 (fun μ1 h1 hD1 => ?_)
      simp only [u182_0, u182_1, u182_3, u182_4, u182_7, u182_8, u182_11, u182_14, u182_17, Option.toList, List.cons_append, List.nil_append, q_ski, q_skr, q_sku, if_true, if_false, nI_1]
      exact ih μ1 (h0.tr h1) (by rw [hD1, hD]; rfl)
  exact main μ q_fr.rf rfl
