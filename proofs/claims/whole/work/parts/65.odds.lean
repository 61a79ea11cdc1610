theorem q_ev8 : ∀ a, a < 9 → (nI a ||| 8) &&& (-(nI a ||| 8)) = nI (Nat.gcd a 8) ∧ ¬ nI (Nat.gcd a 8) = 0 := by decide +kernel
theorem m_common {d : Nat} {R : gR} {μ : gM} {a : Nat} (h : a < 9) : gc_S (d + 1) 231 [.int (nI a), .int 8] μ R ↔ R (some (.int (nI (Nat.gcd a 8)))) μ := by
  have r : a = 0 ∨ a = 1 ∨ a = 2 ∨ a = 3 ∨ a = 4 ∨ a = 5 ∨ a = 6 ∨ a = 7 ∨ a = 8 := by omega
  simp only [s231, u231_0, u231_1, u231_2, u231_3, u231_5, u231_8, u231_9, u231_10, u231_11, u231_13, u231_14, u231_15, u231_17, u231_18, u231_21, u231_22, Option.toList, List.cons_append, List.nil_append, q_ski, q_skr, q_sku, if_true, if_false]
  have stop : ∀ l0 l1 (x : Int32) l4, gc_W (gc_S d) cX12_common 12 0 R 4 [l0, l1, .int x, .int 0, l4] [] μ ↔ R (some (.int x)) μ := fun l0 l1 x l4 => by
    refine (u231_4).trans ?_
    simp only [u231_0, u231_1, u231_2, u231_3, u231_5, u231_8, u231_9, u231_10, u231_11, u231_13, u231_14, u231_15, u231_17, u231_18, u231_21, u231_22, Option.toList, List.cons_append, List.nil_append, q_ski, q_skr, q_sku, if_true, if_false]
  have step : ∀ (x y z : Int32) l4, ¬ y = 0 → gc_sk l4 = true → x - x / y * y = z → (gc_W (gc_S d) cX12_common 12 0 R 4 [.int (nI a), .int 8, .int x, .int y, l4] [] μ ↔ gc_W (gc_S d) cX12_common 12 0 R 4 [.int (nI a), .int 8, .int y, .int z, .int z] [] μ) := fun x y z l4 hy hl hz => by
    refine (u231_4).trans ?_
    simp only [u231_0, u231_1, u231_2, u231_3, u231_5, u231_8, u231_9, u231_10, u231_11, u231_13, u231_14, u231_15, u231_17, u231_18, u231_21, u231_22, Option.toList, List.cons_append, List.nil_append, q_ski, q_skr, q_sku, if_true, if_false, hy, not_false_eq_true, true_and, hz, hl]
  rcases r with rfl | rfl | rfl | rfl | rfl | rfl | rfl | rfl | rfl
  · rw [step (nI 0) 8 (0) _ (by decide) rfl (show (nI 0 : Int32) - nI 0 / 8 * 8 = 0 by decide), stop]
    exact Iff.rfl
  · rw [step (nI 1) 8 (1) _ (by decide) rfl (show (nI 1 : Int32) - nI 1 / 8 * 8 = 1 by decide), step 8 1 (0) _ (by decide) rfl (show (8 : Int32) - 8 / 1 * 1 = 0 by decide), stop]
    exact Iff.rfl
  · rw [step (nI 2) 8 (2) _ (by decide) rfl (show (nI 2 : Int32) - nI 2 / 8 * 8 = 2 by decide), step 8 2 (0) _ (by decide) rfl (show (8 : Int32) - 8 / 2 * 2 = 0 by decide), stop]
    exact Iff.rfl
  · rw [step (nI 3) 8 (3) _ (by decide) rfl (show (nI 3 : Int32) - nI 3 / 8 * 8 = 3 by decide), step 8 3 (2) _ (by decide) rfl (show (8 : Int32) - 8 / 3 * 3 = 2 by decide), step 3 2 (1) _ (by decide) rfl (show (3 : Int32) - 3 / 2 * 2 = 1 by decide), step 2 1 (0) _ (by decide) rfl (show (2 : Int32) - 2 / 1 * 1 = 0 by decide), stop]
    exact Iff.rfl
  · rw [step (nI 4) 8 (4) _ (by decide) rfl (show (nI 4 : Int32) - nI 4 / 8 * 8 = 4 by decide), step 8 4 (0) _ (by decide) rfl (show (8 : Int32) - 8 / 4 * 4 = 0 by decide), stop]
    exact Iff.rfl
  · rw [step (nI 5) 8 (5) _ (by decide) rfl (show (nI 5 : Int32) - nI 5 / 8 * 8 = 5 by decide), step 8 5 (3) _ (by decide) rfl (show (8 : Int32) - 8 / 5 * 5 = 3 by decide), step 5 3 (2) _ (by decide) rfl (show (5 : Int32) - 5 / 3 * 3 = 2 by decide), step 3 2 (1) _ (by decide) rfl (show (3 : Int32) - 3 / 2 * 2 = 1 by decide), step 2 1 (0) _ (by decide) rfl (show (2 : Int32) - 2 / 1 * 1 = 0 by decide), stop]
    exact Iff.rfl
  · rw [step (nI 6) 8 (6) _ (by decide) rfl (show (nI 6 : Int32) - nI 6 / 8 * 8 = 6 by decide), step 8 6 (2) _ (by decide) rfl (show (8 : Int32) - 8 / 6 * 6 = 2 by decide), step 6 2 (0) _ (by decide) rfl (show (6 : Int32) - 6 / 2 * 2 = 0 by decide), stop]
    exact Iff.rfl
  · rw [step (nI 7) 8 (7) _ (by decide) rfl (show (nI 7 : Int32) - nI 7 / 8 * 8 = 7 by decide), step 8 7 (1) _ (by decide) rfl (show (8 : Int32) - 8 / 7 * 7 = 1 by decide), step 7 1 (0) _ (by decide) rfl (show (7 : Int32) - 7 / 1 * 1 = 0 by decide), stop]
    exact Iff.rfl
  · rw [step (nI 8) 8 (0) _ (by decide) rfl (show (nI 8 : Int32) - nI 8 / 8 * 8 = 0 by decide), stop]
    exact Iff.rfl
theorem m_trialW {d : Nat} {R : gR} {μ μ1 : gM} {n y w v : Nat} (hok : q_ok (upd (μ 84) w (nI v))) (hw : 1 < w ∧ w < 75) (hy : μ 84 1 = nI y) (hy2 : y ≤ 10000) (hn : n ≤ 60) (t : q_td μ μ1) (h : ∀ μ', q_td μ μ' → R (some (.int (q_bw (μ 84) w n v))) μ') : gc_S (d + 8) 208 [.ref 83, .int (nI n)] (gc_up μ1 84 w (nI v)) R := by
  obtain ⟨f1, a1⟩ := t
  have e84 : gc_up μ1 84 w (nI v) 84 = upd (μ 84) w (nI v) := by rw [gc_up_eq, f1 84 (by omega) (by omega) (by omega) (by omega)]
  have eo : ∀ o, o ≠ 84 → gc_up μ1 84 w (nI v) o = μ1 o := fun o ho => gc_up_ne ho
  have ey : upd (μ 84) w (nI v) 1 = nI y := (if_neg (by omega)).trans hy
  refine m_wetBehind (y := y) (by rw [e84]; exact hok) (by rw [e84]; exact ey) (by omega) (fun μ2 f2 hD => ?_)
  rw [e84]
  refine h μ2 ⟨fun o b1 b2 b3 b4 => ?_, fun j hj => ?_⟩
  · by_cases e : o = 84
    · subst e
      funext j
      rw [hD, e84, eo _ (by omega)]
      by_cases hj : j < 75
      · rw [pk_cpy_in (by omega) (by omega), show 0 + (j - 0) = j by omega, a1 j hj]
      · rw [pk_cpy_out (by omega), q_yrs_hi hok ey (by omega) n (by omega)]
        exact if_neg (by omega)
    · rw [f2 o e b2 b3 b4, eo o e]
      exact f1 o b1 b2 b3 b4
  · rw [f2 86 (by omega) (by omega) (by omega) (by omega), eo _ (by omega)]
    exact a1 j hj
def q_ov (D : Nat → Int32) (w n : Nat) (v : Int32) (k : Nat) : Bool := decide (q_bw D w n k ≤ v)
set_option maxHeartbeats 1000000 in
theorem m_odds {d : Nat} {R : gR} {μ : gM} {n v p : Int32} {y : Nat} (hok : q_ok (μ 84)) (hy : μ 84 1 = nI y) (hy2 : y ≤ 10000) (h : if (0 ≤ n ∧ n ≤ 30) ∧ (0 ≤ v ∧ v ≤ 1584) ∧ 0 ≤ p ∧ p ≤ 1 then ∀ μ', q_f2 μ μ' → R (some (.int ((if p = 0 then nI (q_ct (q_ov (μ 84) (37 + y % 6) n.toNatClampNeg v) 8) else 8) / nI (Nat.gcd (q_ct (q_ov (μ 84) (37 + y % 6) n.toNatClampNeg v) 8) 8)))) μ' else R (some (.int (-1000000001))) (gc_up μ 87 1 (μ 87 1 + 1))) : gc_S (d + 9) 232 [.ref 83, .int n, .int v, .int p] μ R := by
  simp only [s232, u232_0, u232_1, u232_2, u232_3, u232_6, u232_9, u232_12, u232_13, u232_14, u232_15, u232_18, u232_21, u232_24, u232_25, u232_26, u232_27, u232_28, u232_31, u232_34, u232_35, u232_36, u232_39, u232_40, u232_41, u232_44, u232_45, u232_47, u232_48, u232_52, u232_54, u232_57, u232_58, u232_61, u232_63, u232_64, u232_67, u232_68, u232_69, u232_71, u232_72, u232_73, u232_75, u232_76, u232_78, u232_79, u232_80, u232_83, u232_84, u232_87, u232_88, u232_91, u232_92, u232_93, u232_95, u232_98, u232_101, u232_102, u232_105, u232_107, u232_110, u232_112, u232_114, u232_116, u232_119, u232_120, ly_kd, ly_al, ly_fv0, ly_fv1, ly_fv2, ly_fv3, ly_fv4, ly_fk, ly_ra, Option.toList, List.cons_append, List.nil_append, q_ski, q_skr, q_sku, if_true, if_false, m_in, m_f1, m_keepAside, q_b0, q_not, q_wl0, q_wl1, q_wl48, q_wu1, q_wu2, q_wu3, q_wu5, q_wu6, q_wu7, q_wu8, q_wu15, q_wu30, q_wu40, q_wu57, q_wu60, q_wu69, q_wu99, q_wu1584, fa_wide_le]
  by_cases h1 : 0 ≤ n ∧ n ≤ 30
  · by_cases h2 : 0 ≤ v ∧ v ≤ 1584
    · by_cases h3 : 0 ≤ p ∧ p ≤ 1
      · rw [if_pos ⟨h1, h2, h3⟩] at h
        simp only [h1, h2, h3, and_self, if_true]
        obtain ⟨j, hj, rfl⟩ := q_rng (n := 30) rfl h1
        rw [nI_clamp (by omega)] at h
        have main : ∀ m c, c + m = 8 → ∀ μ1, q_td μ μ1 → gc_W (gc_S (d+8)) cX12_odds 12 0 R 50 [.ref 83, .int (nI j), .int v, .int p, .int (nI (q_ct (q_ov (μ 84) (37 + y % 6) j v) c)), .int (nI c)] [] μ1 := by
          intro m
          induction m with
          | zero =>
            intro c hc μ1 t1
            obtain rfl : c = 8 := hc
            have h9 : q_ct (q_ov (μ 84) (37 + y % 6) j v) 8 < 9 := by have := q_ct_le (p := q_ov (μ 84) (37 + y % 6) j v) 8; omega
            obtain ⟨-, hz⟩ := q_ev8 _ h9
            have hh := h μ1 t1.1
            refine (u232_50).mpr ?_
            by_cases p0 : p = 0
            · rw [if_pos p0] at hh
              simp only [u232_0, u232_1, u232_2, u232_3, u232_6, u232_9, u232_12, u232_13, u232_14, u232_15, u232_18, u232_21, u232_24, u232_25, u232_26, u232_27, u232_28, u232_31, u232_34, u232_35, u232_36, u232_39, u232_40, u232_41, u232_44, u232_45, u232_47, u232_48, u232_52, u232_54, u232_57, u232_58, u232_61, u232_63, u232_64, u232_67, u232_68, u232_69, u232_71, u232_72, u232_73, u232_75, u232_76, u232_78, u232_79, u232_80, u232_83, u232_84, u232_87, u232_88, u232_91, u232_92, u232_93, u232_95, u232_98, u232_101, u232_102, u232_105, u232_107, u232_110, u232_112, u232_114, u232_116, u232_119, u232_120, show (8 : Int32) ≤ nI 8 by decide, if_true, p0, m_common h9, hz, not_false_eq_true, true_and, Option.toList, List.cons_append, List.nil_append, q_ski, q_skr, q_sku, if_true, if_false]
              exact hh
            · rw [if_neg p0] at hh
              simp only [u232_0, u232_1, u232_2, u232_3, u232_6, u232_9, u232_12, u232_13, u232_14, u232_15, u232_18, u232_21, u232_24, u232_25, u232_26, u232_27, u232_28, u232_31, u232_34, u232_35, u232_36, u232_39, u232_40, u232_41, u232_44, u232_45, u232_47, u232_48, u232_52, u232_54, u232_57, u232_58, u232_61, u232_63, u232_64, u232_67, u232_68, u232_69, u232_71, u232_72, u232_73, u232_75, u232_76, u232_78, u232_79, u232_80, u232_83, u232_84, u232_87, u232_88, u232_91, u232_92, u232_93, u232_95, u232_98, u232_101, u232_102, u232_105, u232_107, u232_110, u232_112, u232_114, u232_116, u232_119, u232_120, show (8 : Int32) ≤ nI 8 by decide, if_true, p0, if_false, m_common h9, hz, not_false_eq_true, true_and, Option.toList, List.cons_append, List.nil_append, q_ski, q_skr, q_sku, if_true, if_false]
              exact hh
          | succ m ih =>
            intro c hc μ1 t1
            have t1' := t1
            obtain ⟨f1, a1⟩ := t1
            have e84 : μ1 84 = μ 84 := f1 84 (by omega) (by omega) (by omega) (by omega)
            have e6 : nI y - nI y / 6 * 6 = nI (y % 6) := by rw [show (6 : Int32) = nI 6 from rfl, pk_rem (by omega) (by decide) (by decide)]
            have hm6 : y % 6 < 6 := Nat.mod_lt _ (by decide)
            refine (u232_50).mpr ?_
            simp only [u232_0, u232_1, u232_2, u232_3, u232_6, u232_9, u232_12, u232_13, u232_14, u232_15, u232_18, u232_21, u232_24, u232_25, u232_26, u232_27, u232_28, u232_31, u232_34, u232_35, u232_36, u232_39, u232_40, u232_41, u232_44, u232_45, u232_47, u232_48, u232_52, u232_54, u232_57, u232_58, u232_61, u232_63, u232_64, u232_67, u232_68, u232_69, u232_71, u232_72, u232_73, u232_75, u232_76, u232_78, u232_79, u232_80, u232_83, u232_84, u232_87, u232_88, u232_91, u232_92, u232_93, u232_95, u232_98, u232_101, u232_102, u232_105, u232_107, u232_110, u232_112, u232_114, u232_116, u232_119, u232_120, q_nle (show c < 8 by omega) (by decide) (show (8 : Int32) = nI 8 from rfl), ly_kd, ly_al, ly_fv0, ly_fv1, ly_fv2, ly_fv3, ly_fv4, ly_fk, ly_ra, Option.toList, List.cons_append, List.nil_append, q_ski, q_skr, q_sku, if_true, if_false, q_v247, q_tn, e84, hy, e6, show ¬ (6 : Int32) = 0 by decide, not_false_eq_true, true_and, show (37 : Int32) + nI (y % 6) = nI (37 + y % 6) from nI_add 37 _, vp_in_nI (show 37 + y % 6 < 247 by omega) (by decide), nI_clamp (show 37 + y % 6 < 2 ^ 31 by omega)]
            refine m_trialW (v := c) (w := 37 + y % 6) (q_ok_upd hok (by omega) (fun _ => by omega) (fun _ _ => by omega) (fun _ _ => by omega) (fun _ _ => by omega) (fun _ _ => by omega)) (by omega) hy hy2 (by omega) t1' (fun μ2 t2 => ?_)
            have nx := ih (c + 1) (by omega) μ2 t2
            have es : q_ct (q_ov (μ 84) (37 + y % 6) j v) (c + 1) = q_ct (q_ov (μ 84) (37 + y % 6) j v) c + (if q_ov (μ 84) (37 + y % 6) j v c = true then 1 else 0) := rfl
            rw [es] at nx
            by_cases e : q_bw (μ 84) (37 + y % 6) j c ≤ v
            · rw [if_pos (show q_ov (μ 84) (37 + y % 6) j v c = true from decide_eq_true e)] at nx
              simp only [u232_0, u232_1, u232_2, u232_3, u232_6, u232_9, u232_12, u232_13, u232_14, u232_15, u232_18, u232_21, u232_24, u232_25, u232_26, u232_27, u232_28, u232_31, u232_34, u232_35, u232_36, u232_39, u232_40, u232_41, u232_44, u232_45, u232_47, u232_48, u232_52, u232_54, u232_57, u232_58, u232_61, u232_63, u232_64, u232_67, u232_68, u232_69, u232_71, u232_72, u232_73, u232_75, u232_76, u232_78, u232_79, u232_80, u232_83, u232_84, u232_87, u232_88, u232_91, u232_92, u232_93, u232_95, u232_98, u232_101, u232_102, u232_105, u232_107, u232_110, u232_112, u232_114, u232_116, u232_119, u232_120, Int32.not_lt.mpr e, if_false, ly_kd, ly_al, ly_fv0, ly_fv1, ly_fv2, ly_fv3, ly_fv4, ly_fk, ly_ra, Option.toList, List.cons_append, List.nil_append, q_ski, q_skr, q_sku, if_true, if_false, nI_1]
              exact nx
            · rw [if_neg (by unfold q_ov; rw [decide_eq_false e]; decide), Nat.add_zero] at nx
              simp only [u232_0, u232_1, u232_2, u232_3, u232_6, u232_9, u232_12, u232_13, u232_14, u232_15, u232_18, u232_21, u232_24, u232_25, u232_26, u232_27, u232_28, u232_31, u232_34, u232_35, u232_36, u232_39, u232_40, u232_41, u232_44, u232_45, u232_47, u232_48, u232_52, u232_54, u232_57, u232_58, u232_61, u232_63, u232_64, u232_67, u232_68, u232_69, u232_71, u232_72, u232_73, u232_75, u232_76, u232_78, u232_79, u232_80, u232_83, u232_84, u232_87, u232_88, u232_91, u232_92, u232_93, u232_95, u232_98, u232_101, u232_102, u232_105, u232_107, u232_110, u232_112, u232_114, u232_116, u232_119, u232_120, Int32.not_le.mp e, if_true, ly_kd, ly_al, ly_fv0, ly_fv1, ly_fv2, ly_fv3, ly_fv4, ly_fk, ly_ra, Option.toList, List.cons_append, List.nil_append, q_ski, q_skr, q_sku, if_true, if_false, nI_1, Int32.add_zero]
              exact nx
        exact main 8 0 rfl _ q_td0
      · rw [if_neg (fun q => h3 q.2.2)] at h
        simp only [h1, h2, h3, and_self, if_true, if_false]
        exact h
    · rw [if_neg (fun q => h2 q.2.1)] at h
      simp only [h1, h2, and_self, if_true, if_false]
      exact h
  · rw [if_neg (fun q => h1 q.1)] at h
    simp only [h1, if_false]
    exact h
