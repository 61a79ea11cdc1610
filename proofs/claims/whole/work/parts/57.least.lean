theorem q_bw_le {D : Nat → Int32} {w n c y : Nat} (hok : q_ok (upd D w (nI c))) (hy : upd D w (nI c) 1 = nI y) (hn : y + n ≤ 20000) : ∃ s, q_bw D w n c = nI s ∧ s ≤ 1584 := q_wet_le (q_ok_yrs hok hy n hn).1
theorem t_yearsOn {d : Nat} {R : gR} {μ μ1 : gM} {D : Nat → Int32} {y n c : Nat} (hok : q_ok D) (hy : D 1 = nI y) (hn : y + n ≤ 20000) (hc : c < n) (hL : q_L D μ) (g1 : q_g 43 μ μ1) (R1 : q_R 43 (q_yrs D c) μ1) (h : ∀ μ', q_g 43 μ μ' → q_R 43 (q_yrs D (c + 1)) μ' → R none μ') : gc_S (d + 5) 38 [.ref 43] μ1 R :=
  t_passYear q_K43 (by omega) (q_ok_yrs hok hy c (by omega)).1 R1 (q_LY hok hy (by omega) hL g1) (fun μ2 g2 _ R2 => h μ2 (g1.tr g2) R2)
theorem q_L_pl {D : Nat → Int32} {μ : gM} (hL : q_L D μ) {w : Nat} {x : Int32} (hw : w < 75) : q_L (upd D w x) μ := q_L_D hL (fun j hj => if_neg (by omega))
set_option maxHeartbeats 1000000 in
theorem t_leastWetting {d : Nat} {R : gR} {μ : gM} {D : Nat → Int32} {y n what who many : Nat} (hy : D 1 = nI y) (hy2 : y ≤ 10000) (hn : n ≤ 60) (hw : what ≤ 3) (hwho : if what = 1 then who < 6 else who < 8) (hm : many ≤ 16) (hok : ∀ v, v < many → q_ok (upd D (q_pl what who) (nI v))) (hR : q_R 31 D μ) (hL : q_L D μ) (h : ∀ μ', q_g 43 μ μ' → R (some (.int (q_bst D (q_pl what who) n many).1)) μ') : gc_S (d + 6) 101 [.ref 0, .int (nI what), .int (nI who), .int (nI many), .int (nI n)] μ R := by
  have hpl : 1 < q_pl what who ∧ q_pl what who < 75 := by
    unfold q_pl
    rcases (show what = 0 ∨ what = 1 ∨ what = 2 ∨ what = 3 by omega) with rfl | rfl | rfl | rfl
    · have : who < 8 := hwho
      rw [if_pos rfl]; omega
    · have : who < 6 := hwho
      rw [if_neg (by omega), if_pos rfl]; omega
    · have : who < 8 := hwho
      rw [if_neg (by omega), if_neg (by omega), if_pos rfl]; omega
    · have : who < 8 := hwho
      rw [if_neg (by omega), if_neg (by omega), if_neg (by omega)]; omega
  simp only [s101, u101_0, u101_1, u101_3, u101_6, u101_8, u101_9, u101_13, u101_14, u101_17, u101_18, u101_19, u101_20, u101_22, u101_25, u101_26, u101_30, u101_32, u101_35, u101_36, u101_39, u101_42, u101_45, u101_48, u101_49, u101_52, u101_55, u101_57, u101_59, u101_61, u101_64, u101_66, u101_68, u101_70, u101_72, u101_75, u101_78, u101_80, ly_kd, ly_al, ly_fv0, ly_fv1, ly_fv2, ly_fv3, ly_fv4, ly_fk, ly_ra, Option.toList, List.cons_append, List.nil_append, q_ski, q_skr, q_sku, if_true, if_false]
  have main : ∀ m c, c + m = many → ∀ μ1, q_g 43 μ μ1 → ∀ b l, b = (q_bst D (q_pl what who) n c).1 → (if c = 0 then l = 1585 else l = (q_bst D (q_pl what who) n c).2) → ∀ l8, gc_sk l8 = true → gc_W (gc_S (d+5)) cX11_leastWetting 11 0 R 11 [.ref 0, .int (nI what), .int (nI who), .int (nI many), .int (nI n), .int b, .int l, .int (nI c), l8] [] μ1 := by
    intro m
    induction m with
    | zero =>
      intro c hc μ1 g1 b l hb hl l8 h8
      obtain rfl : c = many := hc
      refine (u101_11).mpr ?_
      simp only [u101_0, u101_1, u101_3, u101_6, u101_8, u101_9, u101_13, u101_14, u101_17, u101_18, u101_19, u101_20, u101_22, u101_25, u101_26, u101_30, u101_32, u101_35, u101_36, u101_39, u101_42, u101_45, u101_48, u101_49, u101_52, u101_55, u101_57, u101_59, u101_61, u101_64, u101_66, u101_68, u101_70, u101_72, u101_75, u101_78, u101_80, show nI c ≤ nI c from Int32.le_refl _, if_true]
      rw [hb]
      exact h μ1 g1
    | succ m ih =>
      intro c hc μ1 g1 b l hb hl l8 h8
      have okc := hok c (by omega)
      have yc : upd D (q_pl what who) (nI c) 1 = nI y := by
        have : upd D (q_pl what who) (nI c) 1 = D 1 := if_neg (by omega)
        rw [this, hy]
      have Lc : q_L (upd D (q_pl what who) (nI c)) μ := q_L_pl hL (by omega)
      have R1 : q_R 31 D μ1 := q_R_mem hR (fun o a b _ => g1 o (by omega) (by omega) (by omega))
      refine (u101_11).mpr ?_
      simp only [u101_0, u101_1, u101_3, u101_6, u101_8, u101_9, u101_13, u101_14, u101_17, u101_18, u101_19, u101_20, u101_22, u101_25, u101_26, u101_30, u101_32, u101_35, u101_36, u101_39, u101_42, u101_45, u101_48, u101_49, u101_52, u101_55, u101_57, u101_59, u101_61, u101_64, u101_66, u101_68, u101_70, u101_72, u101_75, u101_78, u101_80, q_nle (show c < many by omega) (by omega) rfl, ly_kd, ly_al, ly_fv0, ly_fv1, ly_fv2, ly_fv3, ly_fv4, ly_fk, ly_ra, Option.toList, List.cons_append, List.nil_append, q_ski, q_skr, q_sku, if_true, if_false]
      refine t_suppose hw hwho R1 (fun μ2 g2 R2 => ?_)
      simp only [u101_0, u101_1, u101_3, u101_6, u101_8, u101_9, u101_13, u101_14, u101_17, u101_18, u101_19, u101_20, u101_22, u101_25, u101_26, u101_30, u101_32, u101_35, u101_36, u101_39, u101_42, u101_45, u101_48, u101_49, u101_52, u101_55, u101_57, u101_59, u101_61, u101_64, u101_66, u101_68, u101_70, u101_72, u101_75, u101_78, u101_80, ly_kd, ly_al, ly_fv0, ly_fv1, ly_fv2, ly_fv3, ly_fv4, ly_fk, ly_ra, Option.toList, List.cons_append, List.nil_append, q_ski, q_skr, q_sku, if_true, if_false, h8]
      have inner : ∀ k j, j + k = n → ∀ μ3, q_g 43 μ μ3 → q_R 43 (q_yrs (upd D (q_pl what who) (nI c)) j) μ3 → gc_W (gc_S (d+5)) cX11_leastWetting 11 0 R 28 [.ref 0, .int (nI what), .int (nI who), .int (nI many), .int (nI n), .int b, .int l, .int (nI c), .int (nI j)] [] μ3 := by
        intro k
        induction k with
        | zero =>
          intro j hj μ3 g3 R3
          obtain rfl : j = n := hj
          refine (u101_28).mpr ?_
          simp only [u101_0, u101_1, u101_3, u101_6, u101_8, u101_9, u101_13, u101_14, u101_17, u101_18, u101_19, u101_20, u101_22, u101_25, u101_26, u101_30, u101_32, u101_35, u101_36, u101_39, u101_42, u101_45, u101_48, u101_49, u101_52, u101_55, u101_57, u101_59, u101_61, u101_64, u101_66, u101_68, u101_70, u101_75, u101_78, u101_80, show nI j ≤ nI j from Int32.le_refl _, if_true, ly_kd, ly_al, ly_fv0, ly_fv1, ly_fv2, ly_fv3, ly_fv4, ly_fk, ly_ra, Option.toList, List.cons_append, List.nil_append, q_ski, q_skr, q_sku, if_true, if_false, t_wetR q_K43 R3]
          have es : q_bst D (q_pl what who) j (c + 1) = if q_bw D (q_pl what who) j c < (q_bst D (q_pl what who) j c).2 then (nI c, q_bw D (q_pl what who) j c) else q_bst D (q_pl what who) j c := rfl
          have ew : q_sum (fun i => q_yrs (upd D (q_pl what who) (nI c)) j (5 + 1 * i)) 16 = q_bw D (q_pl what who) j c := rfl
          obtain ⟨s, hs1, hs2⟩ := q_bw_le okc yc (by omega : y + j ≤ 20000)
          have same : (q_bw D (q_pl what who) j c < l) ↔ (q_bw D (q_pl what who) j c < (q_bst D (q_pl what who) j c).2) := by
            by_cases c0 : c = 0
            · rw [if_pos c0] at hl
              subst c0
              rw [hl, hs1, show (q_bst D (q_pl what who) j 0).2 = 100000 from rfl]
              exact ⟨fun _ => (show nI s < nI 100000 from nI_lt (by omega) (by omega)), fun _ => (show nI s < nI 1585 from nI_lt (by omega) (by omega))⟩
            · rw [if_neg c0] at hl
              rw [hl]
          rw [ew]
          by_cases hlt : q_bw D (q_pl what who) j c < l
          · rw [if_pos (same.mp hlt)] at es
            simp only [Int32.not_le.mpr hlt, if_false, u101_0, u101_1, u101_3, u101_6, u101_8, u101_9, u101_13, u101_14, u101_17, u101_18, u101_19, u101_20, u101_22, u101_25, u101_26, u101_30, u101_32, u101_35, u101_36, u101_39, u101_42, u101_45, u101_48, u101_49, u101_52, u101_55, u101_57, u101_59, u101_61, u101_64, u101_66, u101_68, u101_70, u101_72, u101_75, u101_78, u101_80, ly_kd, ly_al, ly_fv0, ly_fv1, ly_fv2, ly_fv3, ly_fv4, ly_fk, ly_ra, Option.toList, List.cons_append, List.nil_append, q_ski, q_skr, q_sku, if_true, if_false, nI_1]
            exact ih (c + 1) (by omega) μ3 g3 _ _ (by rw [es]) (by rw [if_neg (by omega), es]) _ rfl
          · rw [if_neg (fun z => hlt (same.mpr z))] at es
            have c0 : c ≠ 0 := by
              intro c0
              rw [if_pos c0] at hl
              exact hlt (by rw [hl, hs1]; exact (show nI s < nI 1585 from nI_lt (by omega) (by omega)))
            rw [if_neg c0] at hl
            simp only [Int32.not_lt.mp hlt, if_true, u101_0, u101_1, u101_3, u101_6, u101_8, u101_9, u101_13, u101_14, u101_17, u101_18, u101_19, u101_20, u101_22, u101_25, u101_26, u101_30, u101_32, u101_35, u101_36, u101_39, u101_42, u101_45, u101_48, u101_49, u101_52, u101_55, u101_57, u101_59, u101_61, u101_64, u101_66, u101_68, u101_70, u101_72, u101_75, u101_78, u101_80, ly_kd, ly_al, ly_fv0, ly_fv1, ly_fv2, ly_fv3, ly_fv4, ly_fk, ly_ra, Option.toList, List.cons_append, List.nil_append, q_ski, q_skr, q_sku, if_true, if_false, nI_1]
            exact ih (c + 1) (by omega) μ3 g3 _ _ (by rw [es, hb]) (by rw [if_neg (by omega), es, hl]) _ rfl
        | succ k ik =>
          intro j hj μ3 g3 R3
          refine (u101_28).mpr ?_
          simp only [u101_0, u101_1, u101_3, u101_6, u101_8, u101_9, u101_13, u101_14, u101_17, u101_18, u101_19, u101_20, u101_22, u101_25, u101_26, u101_30, u101_32, u101_35, u101_36, u101_39, u101_42, u101_45, u101_48, u101_49, u101_52, u101_55, u101_57, u101_59, u101_61, u101_64, u101_66, u101_68, u101_70, u101_72, u101_75, u101_78, u101_80, q_nle (show j < n by omega) (by omega) rfl, ly_kd, ly_al, ly_fv0, ly_fv1, ly_fv2, ly_fv3, ly_fv4, ly_fk, ly_ra, Option.toList, List.cons_append, List.nil_append, q_ski, q_skr, q_sku, if_true, if_false]
          refine t_yearsOn okc yc (show y + n ≤ 20000 by omega) (show j < n by omega) Lc g3 R3 (fun μ4 g4 R4 => ?_)
          simp only [u101_0, u101_1, u101_3, u101_6, u101_8, u101_9, u101_13, u101_14, u101_17, u101_18, u101_19, u101_20, u101_22, u101_25, u101_26, u101_30, u101_32, u101_35, u101_36, u101_39, u101_42, u101_45, u101_48, u101_49, u101_52, u101_55, u101_57, u101_59, u101_61, u101_64, u101_66, u101_68, u101_70, u101_72, u101_75, u101_78, u101_80, Option.toList, List.cons_append, List.nil_append, q_ski, q_skr, q_sku, if_true, if_false, nI_1]
          exact ik (j + 1) (by omega) μ4 g4 R4
      exact inner n 0 (by omega) μ2 (g1.tr g2) R2
  exact main many 0 (by omega) μ q_g.rf 0 1585 rfl (by rw [if_pos rfl]) _ rfl
/-- the place of the first number that isn't true; n: none -/
def q_unt (D f : Nat → Int32) : Nat → Nat → Nat
  | c, 0 => c
  | c, k + 1 => if f c = q_sum (fun i => q_yrs D (c + 1) (5 + 1 * i)) 16 then q_unt D f (c + 1) k else c
theorem q_unt_le (D f : Nat → Int32) : ∀ k c, c ≤ q_unt D f c k ∧ q_unt D f c k ≤ c + k
  | 0, c => ⟨Nat.le_refl _, Nat.le_refl _⟩
  | k + 1, c => by
    unfold q_unt
    split
    · have := q_unt_le D f k (c + 1); omega
    · omega
theorem t_firstUntrue {d : Nat} {R : gR} {μ μ0 : gM} {D f : Nat → Int32} {y n r : Nat} (hok : q_ok D) (hy : D 1 = nI y) (hn : y + n ≤ 20000) (hr1 : gc_kd r = 7) (hr2 : ∀ μ, gc_fv r 0 μ = .ref (r + 1)) (hr3 : ∀ μ, gc_fv r 1 μ = .int (μ r 1)) (hr4 : gc_kd (r + 1) = 20) (hr5 : gc_al (r + 1) < 100) (hr6 : n ≤ gc_al (r + 1)) (hr7 : r + 1 < 43 ∨ 50 < r) (hr8 : ¬ (r = 13 ∨ r = 14 ∨ r = 17 ∨ r = 18)) (hlen : μ r 1 = nI n) (hf : ∀ j, j < n → μ (r + 1) j = f j) (hL : q_L D μ) (g0 : q_g 43 μ μ0) (R0 : q_R 43 D μ0) (h : ∀ μ', q_g 43 μ μ' → R (some (.int (if q_unt D f 0 n = n then -1 else nI (q_unt D f 0 n)))) μ') : gc_S (d + 6) 122 [.ref 0, .ref r] μ0 R := by
  simp only [s122, u122_0, u122_1, u122_3, u122_4, u122_7, u122_10, u122_11, u122_14, u122_17, u122_18, u122_21, u122_24, u122_25, u122_28, u122_29, u122_30, u122_33, u122_34, u122_35, u122_38, u122_41, u122_42, ly_kd, ly_al, ly_fv0, ly_fv1, ly_fv2, ly_fv3, ly_fv4, ly_fk, ly_ra, Option.toList, List.cons_append, List.nil_append, q_ski, q_skr, q_sku, if_true, if_false]
  have main : ∀ m c, c + m = n → q_unt D f 0 n = q_unt D f c m → ∀ μ1, q_g 43 μ μ1 → q_R 43 (q_yrs D c) μ1 → gc_W (gc_S (d+5)) cX11_firstUntrue 11 0 R 2 [.ref 0, .ref r, .int (nI c)] [] μ1 := by
    intro m
    induction m with
    | zero =>
      intro c hc hq μ1 g1 R1
      obtain rfl : c = n := hc
      have hq : q_unt D f 0 c = c := hq
      rw [if_pos hq] at h
      have e1 : μ1 r 1 = nI c := by rw [g1 r (by omega) (by omega) (by omega), hlen]
      refine (u122_2).mpr ?_
      simp only [u122_0, u122_1, u122_3, u122_4, u122_7, u122_10, u122_11, u122_14, u122_17, u122_18, u122_21, u122_24, u122_25, u122_28, u122_29, u122_30, u122_33, u122_34, u122_35, u122_38, u122_41, u122_42, hr1, hr2, hr3, e1, show nI c ≤ nI c from Int32.le_refl _, if_true]
      exact h μ1 g1
    | succ m ih =>
      intro c hc hq μ1 g1 R1
      have e1 : μ1 r 1 = nI n := by rw [g1 r (by omega) (by omega) (by omega), hlen]
      refine (u122_2).mpr ?_
      simp only [u122_0, u122_1, u122_3, u122_4, u122_7, u122_10, u122_11, u122_14, u122_17, u122_18, u122_21, u122_24, u122_25, u122_28, u122_29, u122_30, u122_33, u122_34, u122_35, u122_38, u122_41, u122_42, hr1, hr2, hr3, e1, q_nle (show c < n by omega) (by omega) rfl, if_false, ly_kd, ly_al, ly_fv0, ly_fv1, ly_fv2, ly_fv3, ly_fv4, ly_fk, ly_ra, Option.toList, List.cons_append, List.nil_append, q_ski, q_skr, q_sku, if_true, if_false]
      refine t_yearsOn hok hy hn (show c < n by omega) hL g1 R1 (fun μ2 g2 R2 => ?_)
      have e2 : μ2 (r + 1) c = f c := by rw [g2 (r + 1) (by omega) (by omega) (by omega), hf c (by omega)]
      simp only [u122_0, u122_1, u122_3, u122_4, u122_7, u122_10, u122_11, u122_14, u122_17, u122_18, u122_21, u122_24, u122_25, u122_28, u122_29, u122_30, u122_33, u122_34, u122_35, u122_38, u122_41, u122_42, ly_kd, ly_al, ly_fv0, ly_fv1, ly_fv2, ly_fv3, ly_fv4, ly_fk, ly_ra, Option.toList, List.cons_append, List.nil_append, q_ski, q_skr, q_sku, if_true, if_false, t_wetR q_K43 R2, hr1, hr2, hr4, vp_in_nI (show c < gc_al (r + 1) by omega) (by omega), nI_clamp (show c < 2 ^ 31 by omega), true_and, e2]
      have hq' : q_unt D f c (m + 1) = if f c = q_sum (fun i => q_yrs D (c + 1) (5 + 1 * i)) 16 then q_unt D f (c + 1) m else c := rfl
      rw [hq'] at hq
      by_cases he : f c = q_sum (fun i => q_yrs D (c + 1) (5 + 1 * i)) 16
      · rw [if_pos he] at hq
        simp only [he, if_true, u122_0, u122_1, u122_3, u122_4, u122_7, u122_10, u122_11, u122_14, u122_17, u122_18, u122_21, u122_24, u122_25, u122_28, u122_29, u122_30, u122_33, u122_34, u122_35, u122_38, u122_41, u122_42, ly_kd, ly_al, ly_fv0, ly_fv1, ly_fv2, ly_fv3, ly_fv4, ly_fk, ly_ra, Option.toList, List.cons_append, List.nil_append, q_ski, q_skr, q_sku, if_true, if_false, nI_1]
        exact ih (c + 1) (by omega) hq μ2 g2 R2
      · rw [if_neg he] at hq
        rw [if_neg (by omega), hq] at h
        simp only [eq_false (fun z => he z.symm : ¬ q_sum (fun i => q_yrs D (c + 1) (5 + 1 * i)) 16 = f c), if_false, u122_0, u122_1, u122_3, u122_4, u122_7, u122_10, u122_11, u122_14, u122_17, u122_18, u122_21, u122_24, u122_25, u122_28, u122_29, u122_30, u122_33, u122_34, u122_35, u122_38, u122_41, u122_42, ly_kd, ly_al, ly_fv0, ly_fv1, ly_fv2, ly_fv3, ly_fv4, ly_fk, ly_ra, Option.toList, List.cons_append, List.nil_append, q_ski, q_skr, q_sku, if_true, if_false]
        exact h μ2 g2
  exact main n 0 (by omega) rfl μ0 g0 R0
