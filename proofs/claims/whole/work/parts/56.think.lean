/-! what is only thought -/
theorem q_sum_cong {f g : Nat → Int32} : ∀ {n : Nat}, (∀ k, k < n → f k = g k) → q_sum f n = q_sum g n
  | 0, _ => rfl
  | n + 1, h => by
    show q_sum f n + f n = q_sum g n + g n
    rw [q_sum_cong (n := n) (fun k hk => h k (by omega)), h n (by omega)]
theorem q_sum_le {f : Nat → Int32} : ∀ n, n ≤ 16 → (∀ k, k < n → ∃ w, f k = nI w ∧ w ≤ 99) → ∃ s, q_sum f n = nI s ∧ s ≤ 99 * n
  | 0, _, _ => ⟨0, rfl, by omega⟩
  | n + 1, hn, h => by
    obtain ⟨s, hs, hs9⟩ := q_sum_le n (by omega) (fun k hk => h k (by omega))
    obtain ⟨w, hw, hw9⟩ := h n (by omega)
    exact ⟨s + w, by show q_sum f n + f n = _; rw [hs, hw, nI_add], by omega⟩
theorem q_wet_le {D : Nat → Int32} (hok : q_ok D) : ∃ s, q_sum (fun c => D (5 + 1 * c)) 16 = nI s ∧ s ≤ 1584 := by
  obtain ⟨-, -, hwet, -⟩ := hok
  obtain ⟨s, hs, h⟩ := q_sum_le (f := fun c => D (5 + 1 * c)) 16 (by omega) (fun k hk => by
    obtain ⟨w, hw, h9⟩ := hwet k hk
    exact ⟨w, by show D (5 + 1 * k) = _; rw [Nat.one_mul, hw], h9⟩)
  exact ⟨s, hs, by omega⟩
theorem t_wetR {d : Nat} {R : gR} {μ : gM} {k l : Nat} {D : Nat → Int32} (K : q_K k l) (hR : q_R k D μ) : gc_S (d + 1) 8 [.ref k] μ R ↔ R (some (.int (q_sum (fun c => D (5 + 1 * c)) 16))) μ := by
  unfold q_K at K
  rw [t_wetOfAll (by simp only [K]) (by simp only [K]; exact fun _ => trivial) (by simp only [K]) (by simp only [K])]
  rw [q_sum_cong (f := μ (k + 1)) (g := fun c => D (5 + 1 * c)) (fun j hj => by rw [hR.1 j hj, Nat.one_mul])]
theorem q_tks_R {μ : gM} {k j : Nat} {D : Nat → Int32} (hkj : k + 7 < j ∨ j + 7 < k) (h : q_R j D μ) : q_R k D (q_tks μ k j) ∧ (∀ o, (o < k ∨ k + 7 < o) → q_tks μ k j o = μ o) ∧ q_tks μ k j (k + 2) = μ (k + 2) ∧ q_tks μ k j k 14 = μ k 14 := by
  obtain ⟨h1, h2, h3, h4, h5, h6, h7, h8, h9⟩ := h
  unfold q_tks
  dsimp only
  have cpi : ∀ (f g : Nat → Int32) n i, i < n → va_cpy f g 0 0 n i = f i := fun f g n i hi => by rw [pk_cpy_in (by omega) (by omega), show 0 + (i - 0) = i by omega]
  refine ⟨⟨fun i hi => ?_, fun i hi => ?_, fun i hi => ?_, fun i hi => ?_, fun i hi => ?_, fun i hi => ?_, ?_, ?_, ?_⟩, fun o ho => ?_, ?_, ?_⟩
  · rw [gc_up_ne (by omega), gc_up_ne (by omega), gc_up_ne (by omega), gc_cp_ne (by omega), gc_cp_ne (by omega), gc_cp_ne (by omega), gc_cp_ne (by omega), gc_cp_ne (by omega), gc_cp_eq, cpi _ _ _ _ hi]; exact h1 i hi
  · rw [gc_up_ne (by omega), gc_up_ne (by omega), gc_up_ne (by omega), gc_cp_ne (by omega), gc_cp_ne (by omega), gc_cp_ne (by omega), gc_cp_ne (by omega), gc_cp_eq, cpi _ _ _ _ hi, gc_cp_ne (by omega)]; exact h2 i hi
  · rw [gc_up_ne (by omega), gc_up_ne (by omega), gc_up_ne (by omega), gc_cp_ne (by omega), gc_cp_ne (by omega), gc_cp_ne (by omega), gc_cp_eq, cpi _ _ _ _ hi, gc_cp_ne (by omega), gc_cp_ne (by omega)]; exact h3 i hi
  · rw [gc_up_ne (by omega), gc_up_ne (by omega), gc_up_ne (by omega), gc_cp_ne (by omega), gc_cp_ne (by omega), gc_cp_eq, cpi _ _ _ _ hi, gc_cp_ne (by omega), gc_cp_ne (by omega), gc_cp_ne (by omega)]; exact h4 i hi
  · rw [gc_up_ne (by omega), gc_up_ne (by omega), gc_up_ne (by omega), gc_cp_ne (by omega), gc_cp_eq, cpi _ _ _ _ hi, gc_cp_ne (by omega), gc_cp_ne (by omega), gc_cp_ne (by omega), gc_cp_ne (by omega)]; exact h5 i hi
  · rw [gc_up_ne (by omega), gc_up_ne (by omega), gc_up_ne (by omega), gc_cp_eq, cpi _ _ _ _ hi, gc_cp_ne (by omega), gc_cp_ne (by omega), gc_cp_ne (by omega), gc_cp_ne (by omega), gc_cp_ne (by omega)]; exact h6 i hi
  · rw [q_up_j (by omega), q_up_j (by omega), q_up_same, gc_cp_ne (by omega), gc_cp_ne (by omega), gc_cp_ne (by omega), gc_cp_ne (by omega), gc_cp_ne (by omega), gc_cp_ne (by omega)]; exact h7
  · rw [q_up_j (by omega), q_up_same, gc_up_ne (by omega), gc_cp_ne (by omega), gc_cp_ne (by omega), gc_cp_ne (by omega), gc_cp_ne (by omega), gc_cp_ne (by omega), gc_cp_ne (by omega)]; exact h8
  · rw [q_up_same, gc_up_ne (by omega), gc_up_ne (by omega), gc_cp_ne (by omega), gc_cp_ne (by omega), gc_cp_ne (by omega), gc_cp_ne (by omega), gc_cp_ne (by omega), gc_cp_ne (by omega)]; exact h9
  · rw [gc_up_ne (by omega), gc_up_ne (by omega), gc_up_ne (by omega), gc_cp_ne (by omega), gc_cp_ne (by omega), gc_cp_ne (by omega), gc_cp_ne (by omega), gc_cp_ne (by omega), gc_cp_ne (by omega)]
  · rw [gc_up_ne (by omega), gc_up_ne (by omega), gc_up_ne (by omega), gc_cp_ne (by omega), gc_cp_ne (by omega), gc_cp_ne (by omega), gc_cp_ne (by omega), gc_cp_ne (by omega), gc_cp_ne (by omega)]
  · rw [q_up_j (by omega), q_up_j (by omega), q_up_j (by omega), gc_cp_ne (by omega), gc_cp_ne (by omega), gc_cp_ne (by omega), gc_cp_ne (by omega), gc_cp_ne (by omega), gc_cp_ne (by omega)]
theorem t_think {d : Nat} {R : gR} {μ : gM} {D : Nat → Int32} (hR : q_R 31 D μ) (h : ∀ μ', q_g 43 μ μ' → q_R 43 D μ' → R none μ') : gc_S (d + 1) 0 [.ref 43, .ref 31] μ R := by
  rw [t_takes q_K43 q_K31]
  obtain ⟨h1, h2, -, -⟩ := q_tks_R (k := 43) (by omega) hR
  exact h _ (fun o a _ _ => h2 o a) h1
theorem t_thinkBehind {d : Nat} {R : gR} {μ : gM} {D : Nat → Int32} {y n : Nat} (hok : q_ok D) (hy : D 1 = nI y) (hn : y + n ≤ 20000) (hR : q_R 31 D μ) (hL : q_L D μ) (h : ∀ μ', q_g 43 μ μ' → q_R 43 (q_yrs D n) μ' → R none μ') : gc_S (d + 6) 94 [.ref 0, .int (nI n)] μ R := by
  simp only [s94, u94_0, u94_1, u94_4, u94_5, u94_8, u94_11, u94_12, u94_14, u94_15, u94_18, u94_19, u94_22, u94_25, u94_28, u94_31, ly_kd, ly_al, ly_fv0, ly_fv1, ly_fv2, ly_fv3, ly_fv4, ly_fk, ly_ra, Option.toList, List.cons_append, List.nil_append, q_ski, q_skr, q_sku, if_true, if_false]
  refine t_think hR (fun μ0 g0 R0 => ?_)
  simp only [u94_0, u94_1, u94_4, u94_5, u94_8, u94_11, u94_12, u94_14, u94_15, u94_18, u94_19, u94_22, u94_25, u94_28, u94_31, ly_kd, ly_al, ly_fv0, ly_fv1, ly_fv2, ly_fv3, ly_fv4, ly_fk, ly_ra, Option.toList, List.cons_append, List.nil_append, q_ski, q_skr, q_sku, if_true, if_false]
  have main : ∀ m c, c + m = n → ∀ μ1, q_g 43 μ μ1 → q_R 43 (q_yrs D c) μ1 → gc_W (gc_S (d+5)) cX11_thinkBehind 11 2 R 13 [.ref 0, .int (nI n), .int (nI c)] [] μ1 := by
    intro m
    induction m with
    | zero =>
      intro c hc μ1 g1 R1
      obtain rfl : c = n := hc
      refine (u94_13).mpr ?_
      simp only [u94_0, u94_1, u94_4, u94_5, u94_8, u94_11, u94_12, u94_14, u94_15, u94_18, u94_19, u94_22, u94_25, u94_28, u94_31, show nI c ≤ nI c from Int32.le_refl _, if_true]
      exact h μ1 g1 R1
    | succ m ih =>
      intro c hc μ1 g1 R1
      refine (u94_13).mpr ?_
      simp only [u94_0, u94_1, u94_4, u94_5, u94_8, u94_11, u94_12, u94_14, u94_15, u94_18, u94_19, u94_22, u94_25, u94_28, u94_31, q_nle (show c < n by omega) (by omega) rfl, ly_kd, ly_al, ly_fv0, ly_fv1, ly_fv2, ly_fv3, ly_fv4, ly_fk, ly_ra, Option.toList, List.cons_append, List.nil_append, q_ski, q_skr, q_sku, if_true, if_false]
      refine t_passYear q_K43 (by omega) (q_ok_yrs hok hy c (by omega)).1 R1 (q_L_g (q_L_D hL (fun j hj => q_yrs_hi hok hy hj c (by omega))) (by omega) g1) (fun μ2 g2 _ R2 => ?_)
      simp only [u94_0, u94_1, u94_4, u94_5, u94_8, u94_11, u94_12, u94_14, u94_15, u94_18, u94_19, u94_22, u94_25, u94_28, u94_31, Option.toList, List.cons_append, List.nil_append, q_ski, q_skr, q_sku, if_true, if_false, nI_1]
      exact ih (c + 1) (by omega) μ2 (g1.tr g2) R2
  exact main n 0 (by omega) μ0 g0 R0
/-- some years more, of what is thought -/
theorem q_LY {D : Nat → Int32} {y n : Nat} {μ μ1 : gM} (hok : q_ok D) (hy : D 1 = nI y) (hn : y + n ≤ 20000) (hL : q_L D μ) (g : q_g 43 μ μ1) : q_L (q_yrs D n) μ1 := q_L_g (q_L_D hL (fun _ hj => q_yrs_hi hok hy hj n hn)) (by omega) g
theorem t_firstBehind {d : Nat} {R : gR} {μ : gM} {D : Nat → Int32} {y o i w : Nat} {v : Int32} (hok : q_ok D) (hy : D 1 = nI y) (hy2 : y ≤ 10000) (hR : q_R 31 D μ) (hL : q_L D μ) (hko : gc_kd o = 20) (hio : i < gc_al o) (hal : gc_al o < 100) (hrow : ∀ D' μ', q_R 43 D' μ' → μ' o i = D' w) (h : if q_yrs D (q_low D w v) w ≤ v then ∀ μ', q_g 43 μ μ' → R (some (.int (nI (q_low D w v)))) μ' else ∀ μ', q_g 43 μ μ' → R (some (.int (-1000000002))) (gc_up μ' 79 2 (μ' 79 2 + 1))) : gc_S (d + 6) 97 [.ref 0, .ref o, .int (nI i), .int v] μ R := by
  simp only [s97, u97_0, u97_1, u97_4, u97_5, u97_8, u97_11, u97_12, u97_16, u97_18, u97_21, u97_22, u97_23, u97_24, u97_25, u97_28, u97_30, u97_31, u97_32, u97_35, u97_38, u97_41, u97_44, u97_45, u97_46, u97_47, u97_48, u97_51, u97_53, u97_56, u97_57, u97_58, u97_61, ly_kd, ly_al, ly_fv0, ly_fv1, ly_fv2, ly_fv3, ly_fv4, ly_fk, ly_ra, Option.toList, List.cons_append, List.nil_append, q_ski, q_skr, q_sku, if_true, if_false]
  refine t_think hR (fun μ0 g0 R0 => ?_)
  simp only [u97_0, u97_1, u97_4, u97_5, u97_8, u97_11, u97_12, u97_16, u97_18, u97_21, u97_22, u97_23, u97_24, u97_25, u97_28, u97_30, u97_31, u97_32, u97_35, u97_38, u97_41, u97_44, u97_45, u97_46, u97_47, u97_48, u97_51, u97_53, u97_56, u97_57, u97_58, u97_61, ly_kd, ly_al, ly_fv0, ly_fv1, ly_fv2, ly_fv3, ly_fv4, ly_fk, ly_ra, Option.toList, List.cons_append, List.nil_append, q_ski, q_skr, q_sku, if_true, if_false]
  have vi : vp_in (nI i) (gc_al o) := vp_in_nI hio (by omega)
  have ci : (nI i).toNatClampNeg = i := nI_clamp (by omega)
  have main : ∀ m c, c + m = 60 → q_low D w v = q_first (fun n => q_yrs D n w ≤ v) c m → ∀ μ1, q_g 43 μ μ1 → q_R 43 (q_yrs D c) μ1 → gc_W (gc_S (d+5)) cX11_firstBehind 11 0 R 14 [.ref 0, .ref o, .int (nI i), .int v, .int (nI c)] [] μ1 := by
    intro m
    induction m with
    | zero =>
      intro c hc hq μ1 g1 R1
      obtain rfl : c = 60 := hc
      have hq : q_low D w v = 60 := hq
      rw [hq] at h
      refine (u97_14).mpr ?_
      simp only [u97_0, u97_1, u97_4, u97_5, u97_8, u97_11, u97_12, u97_16, u97_18, u97_21, u97_22, u97_23, u97_24, u97_25, u97_28, u97_30, u97_31, u97_32, u97_35, u97_38, u97_41, u97_44, u97_45, u97_46, u97_47, u97_48, u97_51, u97_53, u97_56, u97_57, u97_58, u97_61, show (60 : Int32) ≤ nI 60 by decide, ly_kd, ly_al, ly_fv0, ly_fv1, ly_fv2, ly_fv3, ly_fv4, ly_fk, ly_ra, Option.toList, List.cons_append, List.nil_append, q_ski, q_skr, q_sku, if_true, if_false, hko, vi, ci, hrow _ _ R1, true_and]
      by_cases hl : q_yrs D 60 w ≤ v
      · rw [if_pos hl] at h
        simp only [Int32.not_lt.mpr hl, u97_0, u97_1, u97_4, u97_5, u97_8, u97_11, u97_12, u97_16, u97_18, u97_21, u97_22, u97_23, u97_24, u97_25, u97_28, u97_30, u97_31, u97_32, u97_35, u97_38, u97_41, u97_44, u97_45, u97_46, u97_47, u97_48, u97_51, u97_53, u97_56, u97_57, u97_58, u97_61, ly_kd, ly_al, ly_fv0, ly_fv1, ly_fv2, ly_fv3, ly_fv4, ly_fk, ly_ra, Option.toList, List.cons_append, List.nil_append, q_ski, q_skr, q_sku, if_true, if_false]
        exact h μ1 g1
      · rw [if_neg hl] at h
        simp only [Int32.not_le.mp hl, u97_0, u97_1, u97_4, u97_5, u97_8, u97_11, u97_12, u97_16, u97_18, u97_21, u97_22, u97_23, u97_24, u97_25, u97_28, u97_30, u97_31, u97_32, u97_35, u97_38, u97_41, u97_44, u97_45, u97_46, u97_47, u97_48, u97_51, u97_53, u97_56, u97_57, u97_58, u97_61, ly_kd, ly_al, ly_fv0, ly_fv1, ly_fv2, ly_fv3, ly_fv4, ly_fk, ly_ra, Option.toList, List.cons_append, List.nil_append, q_ski, q_skr, q_sku, if_true, if_false, t_ref2]
        exact h μ1 g1
    | succ m ih =>
      intro c hc hq μ1 g1 R1
      refine (u97_14).mpr ?_
      simp only [u97_0, u97_1, u97_4, u97_5, u97_8, u97_11, u97_12, u97_16, u97_18, u97_21, u97_22, u97_23, u97_24, u97_25, u97_28, u97_30, u97_31, u97_32, u97_35, u97_38, u97_41, u97_44, u97_45, u97_46, u97_47, u97_48, u97_51, u97_53, u97_56, u97_57, u97_58, u97_61, q_nle (show c < 60 by omega) (by decide) (show (60 : Int32) = nI 60 from rfl), ly_kd, ly_al, ly_fv0, ly_fv1, ly_fv2, ly_fv3, ly_fv4, ly_fk, ly_ra, Option.toList, List.cons_append, List.nil_append, q_ski, q_skr, q_sku, if_true, if_false, hko, vi, ci, hrow _ _ R1, true_and]
      unfold q_first at hq
      by_cases hl : q_yrs D c w ≤ v
      · rw [if_pos hl] at hq
        rw [hq, if_pos hl] at h
        simp only [Int32.not_lt.mpr hl, u97_0, u97_1, u97_4, u97_5, u97_8, u97_11, u97_12, u97_16, u97_18, u97_21, u97_22, u97_23, u97_24, u97_25, u97_28, u97_30, u97_31, u97_32, u97_35, u97_38, u97_41, u97_44, u97_45, u97_46, u97_47, u97_48, u97_51, u97_53, u97_56, u97_57, u97_58, u97_61, ly_kd, ly_al, ly_fv0, ly_fv1, ly_fv2, ly_fv3, ly_fv4, ly_fk, ly_ra, Option.toList, List.cons_append, List.nil_append, q_ski, q_skr, q_sku, if_true, if_false]
        exact h μ1 g1
      · rw [if_neg hl] at hq
        simp only [Int32.not_le.mp hl, if_true, u97_0, u97_1, u97_4, u97_5, u97_8, u97_11, u97_12, u97_16, u97_18, u97_21, u97_22, u97_23, u97_24, u97_25, u97_28, u97_30, u97_31, u97_32, u97_35, u97_38, u97_41, u97_44, u97_45, u97_46, u97_47, u97_48, u97_51, u97_53, u97_56, u97_57, u97_58, u97_61, ly_kd, ly_al, ly_fv0, ly_fv1, ly_fv2, ly_fv3, ly_fv4, ly_fk, ly_ra, Option.toList, List.cons_append, List.nil_append, q_ski, q_skr, q_sku, if_true, if_false]
        refine t_passYear q_K43 (by omega) (q_ok_yrs hok hy c (by omega)).1 R1 (q_LY hok hy (by omega) hL g1) (fun μ2 g2 _ R2 => ?_)
        simp only [u97_0, u97_1, u97_4, u97_5, u97_8, u97_11, u97_12, u97_16, u97_18, u97_21, u97_22, u97_23, u97_24, u97_25, u97_28, u97_30, u97_31, u97_32, u97_35, u97_38, u97_41, u97_44, u97_45, u97_46, u97_47, u97_48, u97_51, u97_53, u97_56, u97_57, u97_58, u97_61, Option.toList, List.cons_append, List.nil_append, q_ski, q_skr, q_sku, if_true, if_false, nI_1]
        exact ih (c + 1) (by omega) hq μ2 (g1.tr g2) R2
  exact main 60 0 rfl rfl μ0 g0 R0
/-- the place in D of what is supposed -/
def q_pl (what who : Nat) : Nat := if what = 0 then 46 + 4 * who else if what = 1 then 37 + who else if what = 2 then 43 + 4 * who else 45 + 4 * who
theorem t_suppose {d : Nat} {R : gR} {μ : gM} {D : Nat → Int32} {what who : Nat} {v : Int32} (hw : what ≤ 3) (hwho : if what = 1 then who < 6 else who < 8) (hR : q_R 31 D μ) (h : ∀ μ', q_g 43 μ μ' → q_R 43 (upd D (q_pl what who) v) μ' → R none μ') : gc_S (d + 2) 100 [.ref 0, .int (nI what), .int (nI who), .int v] μ R := by
  simp only [s100, u100_0, u100_1, u100_4, u100_5, u100_8, u100_11, u100_12, u100_40, u100_41, u100_44, u100_47, u100_48, u100_49, u100_50, u100_53, u100_54, u100_57, u100_60, u100_61, u100_62, u100_63, u100_66, u100_67, u100_70, u100_73, u100_74, u100_75, u100_76, u100_79, u100_80, u100_83, u100_86, u100_87, u100_88, u100_89, ly_kd, ly_al, ly_fv0, ly_fv1, ly_fv2, ly_fv3, ly_fv4, ly_fk, ly_ra, Option.toList, List.cons_append, List.nil_append, q_ski, q_skr, q_sku, if_true, if_false]
  refine t_think hR (fun μ0 g0 R0 => ?_)
  have ci : (nI who).toNatClampNeg = who := nI_clamp (by split at hwho <;> omega)
  unfold q_pl at h
  rcases (show what = 0 ∨ what = 1 ∨ what = 2 ∨ what = 3 by omega) with rfl | rfl | rfl | rfl
  · have w8 : who < 8 := hwho
    simp only [u100_0, u100_1, u100_4, u100_5, u100_8, u100_11, u100_12, u100_40, u100_41, u100_44, u100_47, u100_48, u100_49, u100_50, u100_53, u100_54, u100_57, u100_60, u100_61, u100_62, u100_63, u100_66, u100_67, u100_70, u100_73, u100_74, u100_75, u100_76, u100_79, u100_80, u100_83, u100_86, u100_87, u100_88, u100_89, ly_kd, ly_al, ly_fv0, ly_fv1, ly_fv2, ly_fv3, ly_fv4, ly_fk, ly_ra, Option.toList, List.cons_append, List.nil_append, q_ski, q_skr, q_sku, if_true, if_false, show nI 0 = 0 from rfl, show ¬ (0 : Int32) = 1 by decide, show ¬ (0 : Int32) = 2 by decide, ci, vp_in_nI w8 (by decide), true_and]
    exact h _ (fun o a b c => by rw [gc_up_ne (by omega)]; exact g0 o a b c) (q_R_a R0 w8)
  · have w6 : who < 6 := hwho
    simp only [u100_0, u100_1, u100_4, u100_5, u100_8, u100_11, u100_12, u100_40, u100_41, u100_44, u100_47, u100_48, u100_49, u100_50, u100_53, u100_54, u100_57, u100_60, u100_61, u100_62, u100_63, u100_66, u100_67, u100_70, u100_73, u100_74, u100_75, u100_76, u100_79, u100_80, u100_83, u100_86, u100_87, u100_88, u100_89, ly_kd, ly_al, ly_fv0, ly_fv1, ly_fv2, ly_fv3, ly_fv4, ly_fk, ly_ra, Option.toList, List.cons_append, List.nil_append, q_ski, q_skr, q_sku, if_true, if_false, show ¬ nI 1 = 0 by decide, show nI 1 = 1 from rfl, show ¬ (1 : Int32) = 2 by decide, ci, vp_in_nI w6 (by decide), true_and]
    exact h _ (fun o a b c => by rw [gc_up_ne (by omega)]; exact g0 o a b c) (q_R_p R0 w6)
  · have w8 : who < 8 := hwho
    simp only [u100_0, u100_1, u100_4, u100_5, u100_8, u100_11, u100_12, u100_40, u100_41, u100_44, u100_47, u100_48, u100_49, u100_50, u100_53, u100_54, u100_57, u100_60, u100_61, u100_62, u100_63, u100_66, u100_67, u100_70, u100_73, u100_74, u100_75, u100_76, u100_79, u100_80, u100_83, u100_86, u100_87, u100_88, u100_89, ly_kd, ly_al, ly_fv0, ly_fv1, ly_fv2, ly_fv3, ly_fv4, ly_fk, ly_ra, Option.toList, List.cons_append, List.nil_append, q_ski, q_skr, q_sku, if_true, if_false, show ¬ nI 2 = 0 by decide, show ¬ nI 2 = 1 by decide, show nI 2 = 2 from rfl, ci, vp_in_nI w8 (by decide), true_and]
    exact h _ (fun o a b c => by rw [gc_up_ne (by omega)]; exact g0 o a b c) (q_R_k R0 w8)
  · have w8 : who < 8 := hwho
    simp only [u100_0, u100_1, u100_4, u100_5, u100_8, u100_11, u100_12, u100_40, u100_41, u100_44, u100_47, u100_48, u100_49, u100_50, u100_53, u100_54, u100_57, u100_60, u100_61, u100_62, u100_63, u100_66, u100_67, u100_70, u100_73, u100_74, u100_75, u100_76, u100_79, u100_80, u100_83, u100_86, u100_87, u100_88, u100_89, ly_kd, ly_al, ly_fv0, ly_fv1, ly_fv2, ly_fv3, ly_fv4, ly_fk, ly_ra, Option.toList, List.cons_append, List.nil_append, q_ski, q_skr, q_sku, if_true, if_false, show ¬ nI 3 = 0 by decide, show ¬ nI 3 = 1 by decide, show ¬ nI 3 = 2 by decide, ci, vp_in_nI w8 (by decide), true_and]
    exact h _ (fun o a b c => by rw [gc_up_ne (by omega)]; exact g0 o a b c) (q_R_s R0 w8)
