theorem q_Ll_D {l : Nat} {D D' : Nat → Int32} {μ : gM} (h : q_Ll l D μ) (e : ∀ j, (75 ≤ j ∧ j < 77) ∨ 97 ≤ j → D' j = D j) : q_Ll l D' μ := by
  intro u hu
  have h1 := h u hu
  have : q_code D' u = q_code D u := funext fun j => e _ (by omega)
  rw [e _ (by omega), this]
  exact h1
theorem q_tp_D {k : Nat} {D D' : Nat → Int32} {μ : gM} (h : q_tp k D μ) (e3 : D' 3 = D 3) (e : ∀ j, 197 ≤ j → D' j = D j) : q_tp k D' μ := by
  obtain ⟨t, a, b, c, d⟩ := h
  exact ⟨t, by rw [e3]; exact a, b, c, fun j hj => by rw [e _ (by omega)]; exact d j hj⟩
theorem q_wa_D {k : Nat} {D D' : Nat → Int32} {μ : gM} (h : q_wa k D μ) (e4 : D' 4 = D 4) (e : ∀ j, 77 ≤ j → j < 97 → D' j = D j) : q_wa k D' μ := by
  obtain ⟨t, a, b, c, d⟩ := h
  exact ⟨t, by rw [e4]; exact a, b, c, fun j hj => by rw [e _ (by omega) (by omega)]; exact d j hj⟩
set_option maxHeartbeats 1000000 in
theorem m_check {d : Nat} {R : gR} {μ : gM} {t y : Nat} (hok : q_ok (μ 84)) (hy : μ 84 1 = nI y) (hy2 : y ≤ 10000) (ht : μ 84 4 = nI t) (ht2 : t ≤ 20) (h : ∀ μ', (∀ o, o ≠ 84 → o ≠ 86 → o ≠ 88 → o ≠ 90 → o ≠ 91 → μ' o = μ o) → μ' 84 = upd (μ 84) 4 0 → R (some (.int (if q_unt (upd (μ 84) 4 0) (fun j => μ 84 (77 + j)) 0 t = t then 0 else nI (q_unt (upd (μ 84) 4 0) (fun j => μ 84 (77 + j)) 0 t + 1)))) μ') : gc_S (d + 7) 248 [.ref 83] μ R := by
  simp only [s248, u248_0, u248_1, u248_4, u248_5, u248_6, u248_7, u248_8, u248_11, u248_12, u248_13, u248_14, u248_15, u248_18, u248_19, u248_20, u248_21, u248_23, u248_24, u248_27, u248_28, u248_31, u248_32, u248_35, u248_36, u248_39, u248_41, u248_42, u248_43, u248_44, u248_45, u248_48, u248_51, u248_52, u248_55, u248_56, u248_57, u248_58, u248_59, u248_62, u248_66, u248_69, u248_70, ly_kd, ly_al, ly_fv0, ly_fv1, ly_fv2, ly_fv3, ly_fv4, ly_fk, ly_ra, Option.toList, List.cons_append, List.nil_append, q_ski, q_skr, q_sku, if_true, if_false, q_v247, q_tn, true_and, ht, m_keepAside]
  have ok' : q_ok (upd (μ 84) 4 0) := q_ok_4 hok (by omega)
  have y' : upd (μ 84) 4 0 1 = nI y := (if_neg (by omega)).trans hy
  generalize hDD : upd (μ 84) 4 0 = D' at h ok' y'
  have hi : ∀ j, j ≠ 4 → D' j = μ 84 j := fun j hj => by rw [← hDD]; exact if_neg hj
  have b84 : gc_cp (gc_up μ 84 4 0) 84 86 0 0 75 84 = D' := by rw [gc_cp_ne (by omega), gc_up_eq, hDD]
  have b86 : ∀ j, j < 75 → gc_cp (gc_up μ 84 4 0) 84 86 0 0 75 86 j = D' j := fun j hj => by
    rw [gc_cp_eq, pk_cpy_in (by omega) (by omega), gc_up_eq, hDD, show 0 + (j - 0) = j by omega]
  have bo : ∀ o, o ≠ 84 → o ≠ 86 → gc_cp (gc_up μ 84 4 0) 84 86 0 0 75 o = μ o := fun o a b => by rw [gc_cp_ne b, gc_up_ne a]
  generalize gc_cp (gc_up μ 84 4 0) 84 86 0 0 75 = μa at b84 b86 bo ⊢
  have fin : ∀ c μ1 x l3, c ≤ 20 → x = (if q_unt D' (fun j => μ 84 (77 + j)) 0 t = t then 0 else nI (q_unt D' (fun j => μ 84 (77 + j)) 0 t + 1)) → q_fr μa μ1 → μ1 84 = q_yrs D' c → gc_W (gc_S (d+6)) cX12_check 12 0 R 65 [.ref 83, .int (nI t), .int x, l3] [] μ1 := by
    intro c μ1 x l3 hc hx f1 hD
    simp only [u248_0, u248_1, u248_4, u248_5, u248_6, u248_7, u248_8, u248_11, u248_12, u248_13, u248_14, u248_15, u248_18, u248_19, u248_20, u248_21, u248_23, u248_24, u248_27, u248_28, u248_31, u248_32, u248_35, u248_36, u248_39, u248_41, u248_42, u248_43, u248_44, u248_45, u248_48, u248_51, u248_52, u248_55, u248_56, u248_57, u248_58, u248_59, u248_62, u248_65, u248_66, u248_69, u248_70, ly_kd, ly_al, ly_fv0, ly_fv1, ly_fv2, ly_fv3, ly_fv4, ly_fk, ly_ra, Option.toList, List.cons_append, List.nil_append, q_ski, q_skr, q_sku, if_true, if_false, m_putBack]
    rw [hx]
    refine h _ (fun o a b c d e => by rw [gc_cp_ne a, f1 o a c d e]; exact bo o a b) ?_
    funext j
    rw [gc_cp_eq]
    by_cases hj : j < 75
    · rw [pk_cpy_in (by omega) (by omega), show 0 + (j - 0) = j by omega, f1 86 (by omega) (by omega) (by omega) (by omega), b86 j hj]
    · rw [pk_cpy_out (by omega), hD]
      exact q_yrs_hi ok' y' (by omega) c (by omega)
  have main : ∀ m c, c + m = t → q_unt D' (fun j => μ 84 (77 + j)) 0 t = q_unt D' (fun j => μ 84 (77 + j)) c m → ∀ μ1, q_fr μa μ1 → μ1 84 = q_yrs D' c → gc_W (gc_S (d+6)) cX12_check 12 0 R 22 [.ref 83, .int (nI t), .int 0, .int (nI c)] [] μ1 := by
    intro m
    induction m with
    | zero =>
      intro c hc hq μ1 f1 hD
      obtain rfl : c = t := hc
      refine (u248_22).mpr ?_
      simp only [u248_0, u248_1, u248_4, u248_5, u248_6, u248_7, u248_8, u248_11, u248_12, u248_13, u248_14, u248_15, u248_18, u248_19, u248_20, u248_21, u248_23, u248_24, u248_27, u248_28, u248_31, u248_32, u248_35, u248_36, u248_39, u248_41, u248_42, u248_43, u248_44, u248_45, u248_48, u248_51, u248_52, u248_55, u248_56, u248_57, u248_58, u248_59, u248_62, u248_66, u248_69, u248_70, show nI c ≤ nI c from Int32.le_refl _, if_true]
      exact fin c μ1 0 _ (by omega) (by rw [hq]; exact (if_pos rfl).symm) f1 hD
    | succ m ih =>
      intro c hc hq μ1 f1 hD
      refine (u248_22).mpr ?_
      simp only [u248_0, u248_1, u248_4, u248_5, u248_6, u248_7, u248_8, u248_11, u248_12, u248_13, u248_14, u248_15, u248_18, u248_19, u248_20, u248_21, u248_23, u248_24, u248_27, u248_28, u248_31, u248_32, u248_35, u248_36, u248_39, u248_41, u248_42, u248_43, u248_44, u248_45, u248_48, u248_51, u248_52, u248_55, u248_56, u248_57, u248_58, u248_59, u248_62, u248_66, u248_69, u248_70, q_nle (show c < t by omega) (by omega) rfl, ly_kd, ly_al, ly_fv0, ly_fv1, ly_fv2, ly_fv3, ly_fv4, ly_fk, ly_ra, Option.toList, List.cons_append, List.nil_append, q_ski, q_skr, q_sku, if_true, if_false]
      refine m_yearGoes (by rw [hD]; exact (q_ok_yrs ok' y' c (by omega)).1) (fun μ2 f2 hD2 => ?_)
      have f3 := f1.tr f2
      have hD3 : μ2 84 = q_yrs D' (c + 1) := by rw [hD2, hD]; rfl
      have e2 : q_yrs D' (c + 1) (77 + c) = μ 84 (77 + c) := by
        rw [q_yrs_hi ok' y' (by omega) (c + 1) (by omega), hi _ (by omega)]
      simp only [u248_0, u248_1, u248_4, u248_5, u248_6, u248_7, u248_8, u248_11, u248_12, u248_13, u248_14, u248_15, u248_18, u248_19, u248_20, u248_21, u248_23, u248_24, u248_27, u248_28, u248_31, u248_32, u248_35, u248_36, u248_39, u248_41, u248_42, u248_43, u248_44, u248_45, u248_48, u248_51, u248_52, u248_55, u248_56, u248_57, u248_58, u248_59, u248_62, u248_66, u248_69, u248_70, ly_kd, ly_al, ly_fv0, ly_fv1, ly_fv2, ly_fv3, ly_fv4, ly_fk, ly_ra, Option.toList, List.cons_append, List.nil_append, q_ski, q_skr, q_sku, if_true, if_false, show (77 : Int32) + nI c = nI (77 + c) from nI_add 77 c, vp_in_nI (show 77 + c < 247 by omega) (by decide), nI_clamp (show 77 + c < 2 ^ 31 by omega), true_and, m_allWet, hD3, e2]
      have hq' : q_unt D' (fun j => μ 84 (77 + j)) c (m + 1) = if μ 84 (77 + c) = q_sum (fun i => q_yrs D' (c + 1) (5 + 1 * i)) 16 then q_unt D' (fun j => μ 84 (77 + j)) (c + 1) m else c := rfl
      rw [hq'] at hq
      by_cases he : μ 84 (77 + c) = q_sum (fun i => q_yrs D' (c + 1) (5 + 1 * i)) 16
      · rw [if_pos he] at hq
        simp only [he, if_true, u248_0, u248_1, u248_4, u248_5, u248_6, u248_7, u248_8, u248_11, u248_12, u248_13, u248_14, u248_15, u248_18, u248_19, u248_20, u248_21, u248_23, u248_24, u248_27, u248_28, u248_31, u248_32, u248_35, u248_36, u248_39, u248_41, u248_42, u248_43, u248_44, u248_45, u248_48, u248_51, u248_52, u248_55, u248_56, u248_57, u248_58, u248_59, u248_62, u248_66, u248_69, u248_70, ly_kd, ly_al, ly_fv0, ly_fv1, ly_fv2, ly_fv3, ly_fv4, ly_fk, ly_ra, Option.toList, List.cons_append, List.nil_append, q_ski, q_skr, q_sku, if_true, if_false, nI_1]
        exact ih (c + 1) (by omega) hq μ2 f3 hD3
      · rw [if_neg he] at hq
        simp only [he, if_false, u248_0, u248_1, u248_4, u248_5, u248_6, u248_7, u248_8, u248_11, u248_12, u248_13, u248_14, u248_15, u248_18, u248_19, u248_20, u248_21, u248_23, u248_24, u248_27, u248_28, u248_31, u248_32, u248_35, u248_36, u248_39, u248_41, u248_42, u248_43, u248_44, u248_45, u248_48, u248_51, u248_52, u248_55, u248_56, u248_57, u248_58, u248_59, u248_62, u248_66, u248_69, u248_70, ly_kd, ly_al, ly_fv0, ly_fv1, ly_fv2, ly_fv3, ly_fv4, ly_fk, ly_ra, Option.toList, List.cons_append, List.nil_append, q_ski, q_skr, q_sku, if_true, if_false, nI_1]
        refine (u248_22).mpr ?_
        have e1 : (1 : Int32) + nI c = nI (c + 1) := by rw [show (1 : Int32) = nI 1 from rfl, nI_add]; congr 1; omega
        have ne : ¬ nI (c + 1) = 0 := nI_ne0 (by omega) (by omega)
        simp only [u248_0, u248_1, u248_4, u248_5, u248_6, u248_7, u248_8, u248_11, u248_12, u248_13, u248_14, u248_15, u248_18, u248_19, u248_20, u248_21, u248_23, u248_24, u248_27, u248_28, u248_31, u248_32, u248_35, u248_36, u248_39, u248_41, u248_42, u248_43, u248_44, u248_45, u248_48, u248_51, u248_52, u248_55, u248_56, u248_57, u248_58, u248_59, u248_62, u248_66, u248_69, u248_70, e1, ne, if_false]
        have := fin (c + 1) μ2 (nI (c + 1)) (.int (nI (c + 1))) (by omega) (by rw [hq]; exact (if_neg (by omega)).symm) f3 hD3
        split
        · exact this
        · exact this
  exact main t 0 (by omega) rfl μa q_fr.rf b84
theorem p_check : q_P 138 248 [.ref 0] [.ref 83] := by
  intro μ R I hk
  obtain ⟨ok, ⟨y, hy, hy2⟩, hR, hL⟩ := q_c31 I
  obtain ⟨t, wt, wt2, wl, wv⟩ := I.1.2.2.2.2.2.2
  have ok' : q_ok (upd (μ 84) 4 0) := q_ok_4 ok (by omega)
  have y' : upd (μ 84) 4 0 1 = nI y := (if_neg (by omega)).trans hy
  have o : ∀ j, j ≠ 4 → upd (μ 84) 4 0 j = μ 84 j := fun j hj => if_neg hj
  have R' : q_R 31 (upd (μ 84) 4 0) μ := q_R_D hR (fun j a b c e => o j e)
  have L' : q_L (upd (μ 84) 4 0) μ := q_L_D hL (fun j hj => o j (by omega))
  simp only [s138, u138_0, u138_1, u138_4, u138_5, u138_8, u138_11, u138_12, u138_13, u138_16, u138_19, u138_22, u138_23, u138_24, u138_27, u138_30, u138_31, u138_34, u138_35, u138_36, u138_37, ly_kd, ly_al, ly_fv0, ly_fv1, ly_fv2, ly_fv3, ly_fv4, ly_fk, ly_ra, Option.toList, List.cons_append, List.nil_append, q_ski, q_skr, q_sku, if_true, if_false]
  refine t_think R' (fun μ0 g0 R0 => ?_)
  simp only [u138_0, u138_1, u138_4, u138_5, u138_8, u138_11, u138_12, u138_13, u138_16, u138_19, u138_22, u138_23, u138_24, u138_27, u138_30, u138_31, u138_34, u138_35, u138_36, u138_37, ly_kd, ly_al, ly_fv0, ly_fv1, ly_fv2, ly_fv3, ly_fv4, ly_fk, ly_ra, Option.toList, List.cons_append, List.nil_append, q_ski, q_skr, q_sku, if_true, if_false]
  refine t_firstUntrue (r := 41) (n := t) (f := fun j => μ 84 (77 + j)) ok' y' (by omega) rfl (fun _ => rfl) (fun _ => rfl) rfl (by decide) (show t ≤ 20 from wt2) (by omega) (by omega) wl wv L' g0 R0 (fun μ1 g1 => ?_)
  simp only [u138_0, u138_1, u138_4, u138_5, u138_8, u138_11, u138_12, u138_13, u138_16, u138_19, u138_22, u138_23, u138_24, u138_27, u138_30, u138_31, u138_34, u138_35, u138_36, u138_37, ly_kd, ly_al, ly_fv0, ly_fv1, ly_fv2, ly_fv3, ly_fv4, ly_fk, ly_ra, Option.toList, List.cons_append, List.nil_append, q_ski, q_skr, q_sku, if_true, if_false]
  have hle := q_unt_le (upd (μ 84) 4 0) (fun j => μ 84 (77 + j)) t 0
  have ev : (1 : Int32) + (if q_unt (upd (μ 84) 4 0) (fun j => μ 84 (77 + j)) 0 t = t then -1 else nI (q_unt (upd (μ 84) 4 0) (fun j => μ 84 (77 + j)) 0 t)) = if q_unt (upd (μ 84) 4 0) (fun j => μ 84 (77 + j)) 0 t = t then 0 else nI (q_unt (upd (μ 84) 4 0) (fun j => μ 84 (77 + j)) 0 t + 1) := by
    by_cases e : q_unt (upd (μ 84) 4 0) (fun j => μ 84 (77 + j)) 0 t = t
    · rw [if_pos e, if_pos e]; decide
    · rw [if_neg e, if_neg e, show (1 : Int32) = nI 1 from rfl, nI_add]; congr 1; omega
  rw [ev]
  refine hk _ _ (q_hi_up g1.fx.fy.hi (by omega)) (fun R2 h4 => ?_)
  have eo : ∀ o, o ≠ 41 → (o < 43 ∨ 50 < o) → o ≠ 14 → o ≠ 18 → gc_up μ1 41 1 0 o = μ o := fun o a b c d => by rw [gc_up_ne a]; exact g1 o (by omega) c d
  have e84 := eo 84 (by omega) (by omega) (by omega) (by omega)
  refine m_check (t := t) (y := y) (by rw [e84]; exact ok) (by rw [e84]; exact hy) hy2 (by rw [e84]; exact wt) wt2 (fun μ2 f2 hD => ?_)
  rw [e84] at hD ⊢
  have m2 : ∀ o, o ≠ 84 → o ≠ 86 → o ≠ 88 → o ≠ 90 → o ≠ 91 → o ≠ 41 → (o < 43 ∨ 50 < o) → o ≠ 14 → o ≠ 18 → μ2 o = μ o := fun o a b c d e f g h i => by rw [f2 o a b c d e]; exact eo o f g h i
  refine h4 μ2 (q_I_now I (fun o a b c d e1 e2 e3 e4 => m2 o c (by unfold q_scr at a; omega) (by unfold q_scr at a; omega) (by unfold q_scr at a; omega) (by unfold q_scr at a; omega) (by omega) (by unfold q_scr at a; omega) (by unfold q_scr at a; omega) (by unfold q_scr at a; omega)) ?_ ?_ ?_) (fun o ho => f2 o (by omega) (by omega) (by omega) (by omega) (by omega))
  · rw [m2 83 (by omega) (by omega) (by omega) (by omega) (by omega) (by omega) (by omega) (by omega) (by omega)]
  · rw [m2 83 (by omega) (by omega) (by omega) (by omega) (by omega) (by omega) (by omega) (by omega) (by omega)]
  · obtain ⟨i1, i2, i3, i4, i5, i6, i7⟩ := I.1
    have mm : ∀ o, (31 ≤ o ∧ o ≤ 40) ∨ o = 12 ∨ o = 13 ∨ o = 16 ∨ o = 17 ∨ o = 42 → μ2 o = μ o := fun o ho => m2 o (by omega) (by omega) (by omega) (by omega) (by omega) (by omega) (by omega) (by omega) (by omega)
    rw [hD]
    refine ⟨ok', ⟨y, y', hy2⟩, q_R_mem R' (fun o a b _ => mm o (by omega)), ?_, q_Ll_mem (q_Ll_D i5 (fun j hj => o j (by omega))) (fun o ho => mm o (by omega)), q_tp_mem (q_tp_D i6 (o 3 (by omega)) (fun j hj => o j (by omega))) (mm _ (by omega)) (mm _ (by omega)), ⟨0, rfl, by omega, ?_, fun j hj => absurd hj (by omega)⟩⟩
    · rw [mm 31 (by omega), o 2 (by omega)]; exact i4
    · rw [f2 41 (by omega) (by omega) (by omega) (by omega) (by omega)]; exact q_up_same
