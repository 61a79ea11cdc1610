/-! years that go by -/
theorem q_I_yr {μ μ1 : gM} {D' : Nat → Int32} (h : q_I μ) (ok : q_ok D') (hy : ∃ y, D' 1 = nI y ∧ y ≤ 10000) (hR : q_R 31 D' μ1) (hz : μ1 31 14 = D' 2) (e3 : D' 3 = μ 84 3) (e4 : D' 4 = μ 84 4) (e75 : ∀ j, 75 ≤ j → D' j = μ 84 j) (g : q_g 31 μ μ1) : ∀ μ2, q_fr μ1 μ2 → μ2 84 = D' → q_I μ2 ∧ q_hi μ1 μ2 := by
  intro μ2 f hD
  have m : ∀ o, o ≠ 84 → o ≠ 88 → o ≠ 90 → o ≠ 91 → μ2 o = μ1 o := f
  refine ⟨q_I_now h (fun o a b c d e1 e2 e3 e4 => ?_) ?_ ?_ ?_, fun o ho => m o (by omega) (by omega) (by omega) (by omega)⟩
  · unfold q_scr at a
    rw [m o (by omega) (by omega) (by omega) (by omega)]
    exact g o (by omega) (by omega) (by omega)
  · rw [m 83 (by omega) (by omega) (by omega) (by omega), g 83 (by omega) (by omega) (by omega)]
  · rw [m 83 (by omega) (by omega) (by omega) (by omega), g 83 (by omega) (by omega) (by omega)]
  · rw [hD]
    refine q_CL_of h.1 ok hy (q_R_mem hR (fun o a b _ => m o (by omega) (by omega) (by omega) (by omega))) ?_ e3 e4 e75 (fun o ho => ?_)
    · rw [m 31 (by omega) (by omega) (by omega) (by omega)]; exact hz
    · rw [m o (by omega) (by omega) (by omega) (by omega)]
      exact g o (by omega) (by omega) (by omega)
theorem q_lt9 {y n : Nat} (hy : y ≤ 10000) (hn : n ≤ 60) (h : ¬ 9999 < nI y + nI n) : y + n ≤ 9999 := by
  rw [nI_add, show (9999 : Int32) = nI 9999 from rfl, nI_ltI (by omega) (by omega)] at h
  omega
theorem q_I_z {μ : gM} (h : q_I μ) : μ 31 14 = μ 84 2 := h.1.2.2.2.1
theorem p_years {n : Int32} : q_P 92 198 [.ref 0, .int n] [.ref 83, .int n] := by
  intro μ R I hk
  obtain ⟨ok, ⟨y, hy, hy2⟩, hR, hL⟩ := q_c31 I
  have e12 : μ 31 12 = nI y := by rw [hR.2.2.2.2.2.2.2.1, hy]
  simp only [s92, u92_0, u92_1, u92_2, u92_5, u92_6, u92_8, u92_11, u92_12, u92_13, u92_16, u92_17, u92_18, u92_21, u92_24, u92_25, u92_26, u92_29, u92_32, u92_33, u92_34, u92_37, u92_38, u92_39, u92_41, u92_42, u92_45, u92_46, u92_49, u92_52, u92_55, u92_58, u92_59, u92_62, u92_65, ly_kd, ly_al, ly_fv0, ly_fv1, ly_fv2, ly_fv3, ly_fv4, ly_fk, ly_ra, Option.toList, List.cons_append, List.nil_append, q_ski, q_skr, q_sku, if_true, if_false, t_ref1, t_ref3, e12]
  have ref : ¬ (1 ≤ n ∧ n ≤ 60) → R (some (.int (-1000000001))) (gc_up μ 79 1 (μ 79 1 + 1)) := fun hg => by
    refine hk _ _ (q_hi_up q_hi.rf (by omega)) (fun R2 h2 => ?_)
    have e84 : gc_up μ 79 1 (μ 79 1 + 1) 84 = μ 84 := gc_up_ne (by omega)
    refine m_years (y := y) (by rw [e84]; exact ok) (by rw [e84]; exact hy) hy2 ?_
    rw [if_neg hg]
    exact q_P_ref I (by omega) q_fx.rf.fy q_fx.rf.fy h2
  by_cases h1 : n < 1
  · simp only [h1, if_true]
    exact ref (fun z => absurd z.1 (Int32.not_le.mpr h1))
  · by_cases h2 : n ≤ 60
    · simp only [h1, h2, if_true, if_false]
      have h0 : 1 ≤ n := Int32.not_lt.mp h1
      obtain ⟨j, hj, rfl⟩ := q_rng (n := 60) rfl ⟨Int32.le_trans (by decide) h0, h2⟩
      by_cases h3 : nI y + nI j ≤ 9999
      · have h3' : ¬ 9999 < nI y + nI j := Int32.not_lt.mpr h3
        have hyj := q_lt9 hy2 hj h3'
        simp only [h3, if_true]
        have main : ∀ m c, c + m = j → ∀ μ1, q_g 31 μ μ1 → μ1 31 14 = μ 31 14 → q_R 31 (q_yrs (μ 84) c) μ1 → gc_W (gc_S (99)) cX11_years 11 0 R 40 [.ref 0, .int (nI j), .int (nI c)] [] μ1 := by
          intro m
          induction m with
          | zero =>
            intro c hc μ1 g1 z1 r1
            obtain rfl : c = j := hc
            refine (u92_40).mpr ?_
            simp only [u92_0, u92_1, u92_2, u92_5, u92_6, u92_8, u92_11, u92_12, u92_13, u92_16, u92_17, u92_18, u92_21, u92_24, u92_25, u92_26, u92_29, u92_32, u92_33, u92_34, u92_37, u92_38, u92_39, u92_41, u92_42, u92_45, u92_46, u92_49, u92_52, u92_55, u92_58, u92_59, u92_62, u92_65, show nI c ≤ nI c from Int32.le_refl _, if_true, ly_kd, ly_al, ly_fv0, ly_fv1, ly_fv2, ly_fv3, ly_fv4, ly_fk, ly_ra, Option.toList, List.cons_append, List.nil_append, q_ski, q_skr, q_sku, if_true, if_false, t_wetR q_K31 r1]
            refine hk _ _ (fun o ho => g1 o (by omega) (by omega) (by omega)) (fun R2 h4 => ?_)
            have e84 : μ1 84 = μ 84 := g1 84 (by omega) (by omega) (by omega)
            refine m_years (y := y) (by rw [e84]; exact ok) (by rw [e84]; exact hy) hy2 ?_
            rw [if_pos ⟨h0, h2⟩, e84, hy, if_neg h3', nI_clamp (by omega)]
            intro μ2 f2 hD
            obtain ⟨o1, o2⟩ := q_ok_yrs ok hy c (by omega)
            have lo := fun j (a : j < 5 ∨ 21 ≤ j) (b : ∀ i, i < 8 → j ≠ 45 + 4 * i) (d : j ≠ 1) => q_yrs_at ok hy a b d c (by omega)
            obtain ⟨a, b⟩ := q_I_yr I o1 ⟨y + c, o2, by omega⟩ r1 (by rw [z1, lo 2 (by omega) (by omega) (by omega)]; exact q_I_z I) (lo 3 (by omega) (by omega) (by omega)) (lo 4 (by omega) (by omega) (by omega)) (fun i hi => lo i (by omega) (by omega) (by omega)) g1 μ2 f2 hD
            exact h4 μ2 a b
          | succ m ih =>
            intro c hc μ1 g1 z1 r1
            refine (u92_40).mpr ?_
            simp only [u92_0, u92_1, u92_2, u92_5, u92_6, u92_8, u92_11, u92_12, u92_13, u92_16, u92_17, u92_18, u92_21, u92_24, u92_25, u92_26, u92_29, u92_32, u92_33, u92_34, u92_37, u92_38, u92_39, u92_41, u92_42, u92_45, u92_46, u92_49, u92_52, u92_55, u92_58, u92_59, u92_62, u92_65, q_nle (show c < j by omega) (by omega) rfl, ly_kd, ly_al, ly_fv0, ly_fv1, ly_fv2, ly_fv3, ly_fv4, ly_fk, ly_ra, Option.toList, List.cons_append, List.nil_append, q_ski, q_skr, q_sku, if_true, if_false]
            refine t_passYear q_K31 (by omega) (q_ok_yrs ok hy c (by omega)).1 r1 (q_L_g (q_L_D hL (fun _ hj' => q_yrs_hi ok hy hj' c (by omega))) (by omega) g1) (fun μ2 g2 z2 r2 => ?_)
            simp only [u92_0, u92_1, u92_2, u92_5, u92_6, u92_8, u92_11, u92_12, u92_13, u92_16, u92_17, u92_18, u92_21, u92_24, u92_25, u92_26, u92_29, u92_32, u92_33, u92_34, u92_37, u92_38, u92_39, u92_41, u92_42, u92_45, u92_46, u92_49, u92_52, u92_55, u92_58, u92_59, u92_62, u92_65, Option.toList, List.cons_append, List.nil_append, q_ski, q_skr, q_sku, if_true, if_false, nI_1]
            exact ih (c + 1) (by omega) μ2 (g1.tr g2) (by rw [z2, z1]) r2
        exact main j 0 (by omega) μ q_g.rf rfl hR
      · have h3' : 9999 < nI y + nI j := Int32.not_le.mp h3
        simp only [h3, if_false]
        refine hk _ _ (q_hi_up q_hi.rf (by omega)) (fun R2 h4 => ?_)
        have e84 : gc_up μ 79 3 (μ 79 3 + 1) 84 = μ 84 := gc_up_ne (by omega)
        refine m_years (y := y) (by rw [e84]; exact ok) (by rw [e84]; exact hy) hy2 ?_
        rw [if_pos ⟨h0, h2⟩, e84, hy, if_pos h3']
        exact q_P_ref I (by omega) q_fx.rf.fy q_fx.rf.fy h4
    · simp only [h1, h2, if_false]
      exact ref (fun z => h2 z.2)
theorem t_draw {d : Nat} {R : gR} {μ : gM} {D : Nat → Int32} (hok : q_ok D) (hR : q_R 31 D μ) (hz : μ 31 14 = D 2) (h : ∀ μ', q_g 31 μ μ' → μ' 31 14 = q_lb D 2 → q_R 31 (q_lb D) μ' → R none μ') : gc_S (d + 2) 40 [.ref 31] μ R := by
  have hR' := hR
  obtain ⟨h1, h2, h3, h4, h5, h6, h7, h8, h9⟩ := hR
  obtain ⟨p, hp, ep⟩ := q_y6 hok
  obtain ⟨w, hw, ew⟩ := q_dz8 (q_z (D 2))
  obtain ⟨e, he, ee⟩ := q_dz16 (q_z (q_z (D 2)))
  have hok' := hok
  obtain ⟨⟨n, hn, hn8⟩, -⟩ := hok
  simp only [s40, u40_0, u40_1, u40_4, u40_6, u40_7, u40_8, u40_9, u40_12, u40_14, u40_15, u40_16, u40_17, u40_20, u40_21, u40_24, u40_26, u40_27, u40_28, u40_29, u40_30, u40_31, u40_34, u40_37, u40_38, u40_41, u40_42, u40_43, u40_44, ly_kd, ly_al, ly_fv0, ly_fv1, ly_fv2, ly_fv3, ly_fv4, ly_fk, ly_ra, Option.toList, List.cons_append, List.nil_append, q_ski, q_skr, q_sku, if_true, if_false, t_drawn q_K31, hz, q_up_same, ew, ee, show ¬ (8 : Int32) = 0 by decide, show ¬ (16 : Int32) = 0 by decide, show ¬ (6 : Int32) = 0 by decide, not_false_eq_true, true_and]
  have k1 : ∀ j, j ≠ 14 → gc_up (gc_up μ 31 14 (q_z (D 2))) 31 14 (q_z (q_z (D 2))) 31 j = μ 31 j := fun j hj => by rw [q_up_j hj, q_up_j hj]
  have k2 : ∀ o, o ≠ 31 → gc_up (gc_up μ 31 14 (q_z (D 2))) 31 14 (q_z (q_z (D 2))) o = μ o := fun o ho => by rw [gc_up_ne ho, gc_up_ne ho]
  have k3 : gc_up (gc_up μ 31 14 (q_z (D 2))) 31 14 (q_z (q_z (D 2))) 31 14 = q_z (q_z (D 2)) := q_up_same
  generalize gc_up (gc_up μ 31 14 (q_z (D 2))) 31 14 (q_z (q_z (D 2))) = μ1 at k1 k2 k3 ⊢
  have e12 : μ1 31 12 = D 1 := by rw [k1 _ (by omega), h8]
  have e13 : μ1 31 13 = nI n := by rw [k1 _ (by omega), h9, hn]
  have r1 : q_R 31 (upd (upd D 2 (q_z (D 2))) 2 (q_z (q_z (D 2)))) μ1 := by
    refine q_R_D (D := D) ?_ (fun j a b c d => ?_)
    · refine ⟨fun j hj => by rw [k2 _ (by omega)]; exact h1 j hj, fun j hj => by rw [k2 _ (by omega)]; exact h2 j hj, fun j hj => by rw [k2 _ (by omega)]; exact h3 j hj, fun j hj => by rw [k2 _ (by omega)]; exact h4 j hj, fun j hj => by rw [k2 _ (by omega)]; exact h5 j hj, fun j hj => by rw [k2 _ (by omega)]; exact h6 j hj, by rw [k1 _ (by omega)]; exact h7, by rw [k1 _ (by omega)]; exact h8, by rw [k1 _ (by omega)]; exact h9⟩
    · unfold upd; rw [if_neg b, if_neg b]
  have r2 := q_R_p r1 hp (x := nI w)
  have ely : upd (upd (upd D 2 (q_z (D 2))) 2 (q_z (q_z (D 2)))) (37 + p) (nI w) = q_ly D := by
    unfold q_ly
    rw [ep, ew, nI_clamp (by omega)]
  rw [ely] at r2
  have el : q_lb D = if 0 ≤ nI w ∧ nI w ≤ nI n - 1 then upd (q_ly D) (46 + 4 * w) (nI e) else q_ly D := by
    unfold q_lb
    rw [ew, ee, nI_clamp (by omega), hn]
  have zly : q_ly D 2 = q_z (q_z (D 2)) := by
    rw [← ely]
    unfold upd; rw [if_neg (by omega), if_pos rfl]
  simp only [e12, ep, vp_in_nI hp (by decide), nI_clamp (show p < 2 ^ 31 by omega), true_and, q_up_o (show (31 : Nat) ≠ 34 by decide), e13]
  have gm := q_gm (k := nI w) hn8
  by_cases hlt : w < n
  · have c1 : 0 ≤ nI w ∧ nI w ≤ nI n - 1 := gm.mp ⟨nI_pos' (by omega), nI_lt hlt (by omega)⟩
    rw [if_pos c1] at el
    rw [el] at h
    simp only [show ¬ nI n ≤ nI w from fun z => absurd z (nI_ge hlt (by omega)), if_false, u40_0, u40_1, u40_4, u40_6, u40_7, u40_8, u40_9, u40_12, u40_14, u40_15, u40_16, u40_17, u40_20, u40_21, u40_24, u40_26, u40_27, u40_28, u40_29, u40_30, u40_31, u40_34, u40_37, u40_38, u40_41, u40_42, u40_43, u40_44, ly_kd, ly_al, ly_fv0, ly_fv1, ly_fv2, ly_fv3, ly_fv4, ly_fk, ly_ra, Option.toList, List.cons_append, List.nil_append, q_ski, q_skr, q_sku, if_true, if_false, vp_in_nI (show w < 8 by omega) (by decide), nI_clamp (show w < 2 ^ 31 by omega), true_and]
    refine h _ (fun o a b c => ?_) ?_ (q_R_a r2 (by omega))
    · rw [gc_up_ne (by omega), gc_up_ne (by omega), k2 o (by omega)]
    · rw [gc_up_ne (by omega), gc_up_ne (by omega), k3, ← zly]
      exact (if_neg (by omega)).symm
  · have c1 : ¬ (0 ≤ nI w ∧ nI w ≤ nI n - 1) := fun z => by
      have := (nI_ltI (by omega) (by omega)).mp (gm.mpr z).2
      exact hlt this
    rw [if_neg c1] at el
    rw [el] at h
    simp only [show nI n ≤ nI w from nI_le (by omega) (by omega), if_true]
    refine h _ (fun o a b c => ?_) ?_ r2
    · rw [gc_up_ne (by omega), k2 o (by omega)]
    · rw [gc_up_ne (by omega), k3, zly]
theorem q_lo_at {D : Nat → Int32} {y : Nat} (hok : q_ok D) (hy : D 1 = nI y) {j : Nat} (h1 : j = 3 ∨ j = 4 ∨ 75 ≤ j) : ∀ n, y + n ≤ 20000 → q_lo D n j = D j
  | 0, _ => rfl
  | n + 1, h => by
    obtain ⟨k1, k2⟩ := q_ok_lo hok hy n (by omega)
    obtain ⟨b1, b2⟩ := q_ok_lb k1
    show q_yr (q_lb (q_lo D n)) j = D j
    rw [q_yr_at b1 (by omega) (by omega), if_neg (by omega)]
    rw [← q_lo_at hok hy h1 n (by omega)]
    obtain ⟨p, hp, ep⟩ := q_y6 k1
    obtain ⟨w, hw, ew⟩ := q_dz8 (q_z (q_lo D n 2))
    have hly : q_ly (q_lo D n) j = q_lo D n j := by
      unfold q_ly upd
      rw [ep, nI_clamp (by omega), if_neg (by omega), if_neg (by omega), if_neg (by omega)]
    unfold q_lb
    rw [ew, nI_clamp (by omega)]
    split
    · show (if j = 46 + 4 * w then _ else q_ly (q_lo D n) j) = _
      rw [if_neg (by omega), hly]
    · exact hly
theorem q_lo_z {D : Nat → Int32} (hok : q_ok D) : q_yr D 2 = D 2 := by rw [q_yr_at hok (by omega) (by omega), if_neg (by omega)]
theorem p_loose {n : Int32} : q_P 93 200 [.ref 0, .int n] [.ref 83, .int n] := by
  intro μ R I hk
  obtain ⟨ok, ⟨y, hy, hy2⟩, hR, hL⟩ := q_c31 I
  have e12 : μ 31 12 = nI y := by rw [hR.2.2.2.2.2.2.2.1, hy]
  simp only [s93, u93_0, u93_1, u93_2, u93_5, u93_6, u93_8, u93_11, u93_12, u93_13, u93_16, u93_17, u93_18, u93_21, u93_24, u93_25, u93_26, u93_29, u93_32, u93_33, u93_34, u93_37, u93_38, u93_39, u93_41, u93_42, u93_45, u93_46, u93_49, u93_52, u93_53, u93_56, u93_59, u93_62, u93_65, u93_66, u93_69, u93_72, ly_kd, ly_al, ly_fv0, ly_fv1, ly_fv2, ly_fv3, ly_fv4, ly_fk, ly_ra, Option.toList, List.cons_append, List.nil_append, q_ski, q_skr, q_sku, if_true, if_false, t_ref1, t_ref3, e12]
  have ref : ¬ (1 ≤ n ∧ n ≤ 40) → R (some (.int (-1000000001))) (gc_up μ 79 1 (μ 79 1 + 1)) := fun hg => by
    refine hk _ _ (q_hi_up q_hi.rf (by omega)) (fun R2 h2 => ?_)
    have e84 : gc_up μ 79 1 (μ 79 1 + 1) 84 = μ 84 := gc_up_ne (by omega)
    refine m_loose (y := y) (by rw [e84]; exact ok) (by rw [e84]; exact hy) hy2 ?_
    rw [if_neg hg]
    exact q_P_ref I (by omega) q_fx.rf.fy q_fx.rf.fy h2
  by_cases h1 : n < 1
  · simp only [h1, if_true]
    exact ref (fun z => absurd z.1 (Int32.not_le.mpr h1))
  · by_cases h2 : n ≤ 40
    · simp only [h1, h2, if_true, if_false]
      have h0 : 1 ≤ n := Int32.not_lt.mp h1
      obtain ⟨j, hj, rfl⟩ := q_rng (n := 40) rfl ⟨Int32.le_trans (by decide) h0, h2⟩
      by_cases h3 : nI y + nI j ≤ 9999
      · have h3' : ¬ 9999 < nI y + nI j := Int32.not_lt.mpr h3
        have hyj := q_lt9 hy2 (by omega) h3'
        simp only [h3, if_true]
        have main : ∀ m c, c + m = j → ∀ μ1, q_g 31 μ μ1 → μ1 31 14 = q_lo (μ 84) c 2 → q_R 31 (q_lo (μ 84) c) μ1 → gc_W (gc_S (99)) cX11_loose 11 0 R 40 [.ref 0, .int (nI j), .int (nI c)] [] μ1 := by
          intro m
          induction m with
          | zero =>
            intro c hc μ1 g1 z1 r1
            obtain rfl : c = j := hc
            refine (u93_40).mpr ?_
            simp only [u93_0, u93_1, u93_2, u93_5, u93_6, u93_8, u93_11, u93_12, u93_13, u93_16, u93_17, u93_18, u93_21, u93_24, u93_25, u93_26, u93_29, u93_32, u93_33, u93_34, u93_37, u93_38, u93_39, u93_41, u93_42, u93_45, u93_46, u93_49, u93_52, u93_53, u93_56, u93_59, u93_62, u93_65, u93_66, u93_69, u93_72, show nI c ≤ nI c from Int32.le_refl _, if_true, ly_kd, ly_al, ly_fv0, ly_fv1, ly_fv2, ly_fv3, ly_fv4, ly_fk, ly_ra, Option.toList, List.cons_append, List.nil_append, q_ski, q_skr, q_sku, if_true, if_false, t_wetR q_K31 r1]
            refine hk _ _ (fun o ho => g1 o (by omega) (by omega) (by omega)) (fun R2 h4 => ?_)
            have e84 : μ1 84 = μ 84 := g1 84 (by omega) (by omega) (by omega)
            refine m_loose (y := y) (by rw [e84]; exact ok) (by rw [e84]; exact hy) hy2 ?_
            rw [if_pos ⟨h0, h2⟩, e84, hy, if_neg h3', nI_clamp (by omega)]
            intro μ2 f2 hD
            obtain ⟨o1, o2⟩ := q_ok_lo ok hy c (by omega)
            obtain ⟨a, b⟩ := q_I_yr I o1 ⟨y + c, o2, by omega⟩ r1 z1 (q_lo_at ok hy (by omega) c (by omega)) (q_lo_at ok hy (by omega) c (by omega)) (fun i hi => q_lo_at ok hy (by omega) c (by omega)) g1 μ2 f2 hD
            exact h4 μ2 a b
          | succ m ih =>
            intro c hc μ1 g1 z1 r1
            obtain ⟨o1, o2⟩ := q_ok_lo ok hy c (by omega)
            obtain ⟨b1, b2⟩ := q_ok_lb o1
            refine (u93_40).mpr ?_
            simp only [u93_0, u93_1, u93_2, u93_5, u93_6, u93_8, u93_11, u93_12, u93_13, u93_16, u93_17, u93_18, u93_21, u93_24, u93_25, u93_26, u93_29, u93_32, u93_33, u93_34, u93_37, u93_38, u93_39, u93_41, u93_42, u93_45, u93_46, u93_49, u93_52, u93_53, u93_56, u93_59, u93_62, u93_65, u93_66, u93_69, u93_72, q_nle (show c < j by omega) (by omega) rfl, ly_kd, ly_al, ly_fv0, ly_fv1, ly_fv2, ly_fv3, ly_fv4, ly_fk, ly_ra, Option.toList, List.cons_append, List.nil_append, q_ski, q_skr, q_sku, if_true, if_false]
            refine t_draw o1 r1 z1 (fun μ2 g2 z2 r2 => ?_)
            simp only [u93_0, u93_1, u93_2, u93_5, u93_6, u93_8, u93_11, u93_12, u93_13, u93_16, u93_17, u93_18, u93_21, u93_24, u93_25, u93_26, u93_29, u93_32, u93_33, u93_34, u93_37, u93_38, u93_39, u93_41, u93_42, u93_45, u93_46, u93_49, u93_52, u93_53, u93_56, u93_59, u93_62, u93_65, u93_66, u93_69, u93_72, ly_kd, ly_al, ly_fv0, ly_fv1, ly_fv2, ly_fv3, ly_fv4, ly_fk, ly_ra, Option.toList, List.cons_append, List.nil_append, q_ski, q_skr, q_sku, if_true, if_false]
            have e75 : ∀ i, 75 ≤ i → q_lb (q_lo (μ 84) c) i = μ 84 i := fun i hi => by
              have := q_lo_at ok hy (j := i) (by omega) (c + 1) (by omega)
              rw [← this]
              show _ = q_yr (q_lb (q_lo (μ 84) c)) i
              rw [q_yr_at b1 (by omega) (by omega), if_neg (by omega)]
            refine t_passYear q_K31 (by omega) b1 r2 (q_L_g (q_L_g (q_L_D hL e75) (by omega) g1) (by omega) g2) (fun μ3 g3 z3 r3 => ?_)
            simp only [u93_0, u93_1, u93_2, u93_5, u93_6, u93_8, u93_11, u93_12, u93_13, u93_16, u93_17, u93_18, u93_21, u93_24, u93_25, u93_26, u93_29, u93_32, u93_33, u93_34, u93_37, u93_38, u93_39, u93_41, u93_42, u93_45, u93_46, u93_49, u93_52, u93_53, u93_56, u93_59, u93_62, u93_65, u93_66, u93_69, u93_72, Option.toList, List.cons_append, List.nil_append, q_ski, q_skr, q_sku, if_true, if_false, nI_1]
            exact ih (c + 1) (by omega) μ3 ((g1.tr g2).tr g3) (by rw [z3, z2]; exact (q_lo_z b1).symm) r3
        exact main j 0 (by omega) μ q_g.rf (q_I_z I) hR
      · have h3' : 9999 < nI y + nI j := Int32.not_le.mp h3
        simp only [h3, if_false]
        refine hk _ _ (q_hi_up q_hi.rf (by omega)) (fun R2 h4 => ?_)
        have e84 : gc_up μ 79 3 (μ 79 3 + 1) 84 = μ 84 := gc_up_ne (by omega)
        refine m_loose (y := y) (by rw [e84]; exact ok) (by rw [e84]; exact hy) hy2 ?_
        rw [if_pos ⟨h0, h2⟩, e84, hy, if_pos h3']
        exact q_P_ref I (by omega) q_fx.rf.fy q_fx.rf.fy h4
    · simp only [h1, h2, if_false]
      exact ref (fun z => h2 z.2)
