theorem q_first_no (p : Nat → Prop) [DecidablePred p] : ∀ k c j, c ≤ j → j < q_first p c k → ¬ p j
  | 0, c, j, h1, h2 => by
    have h2 : j < c := h2
    omega
  | k + 1, c, j, h1, h2 => by
    have e : q_first p c (k + 1) = if p c then c else q_first p (c + 1) k := rfl
    rw [e] at h2
    by_cases h : p c
    · rw [if_pos h] at h2; omega
    · rw [if_neg h] at h2
      by_cases hj : j = c
      · subst hj; exact h
      · exact q_first_no p k (c + 1) j (by omega) h2
theorem q_first_yes (p : Nat → Prop) [DecidablePred p] : ∀ k c, q_first p c k < c + k → p (q_first p c k)
  | 0, c, h => by
    have h : c < c + 0 := h
    omega
  | k + 1, c, h => by
    have e : q_first p c (k + 1) = if p c then c else q_first p (c + 1) k := rfl
    rw [e] at h ⊢
    by_cases h2 : p c
    · rw [if_pos h2]; exact h2
    · rw [if_neg h2] at h ⊢
      exact q_first_yes p k (c + 1) (by omega)
def q_bad (f : Nat → Int32) (j : Nat) : Prop := ¬ (0 ≤ f j ∧ f j ≤ 99)
theorem q_mn {z n : Nat} (hz : z < 2 ^ 31) (hn : n < 2 ^ 31) : (if nI n < nI z then nI n else nI z) = nI (min z n) := by
  by_cases h : n < z
  · rw [if_pos (nI_lt h hz), Nat.min_eq_right (by omega)]
  · rw [if_neg (fun q => h ((nI_ltI hn hz).mp q)), Nat.min_eq_left (by omega)]
set_option maxHeartbeats 1000000 in
theorem m_wets {d : Nat} {R : gR} {μ : gM} {k z r : Nat} (hk : k < 4) (hz : z ≤ 40) (hlen : μ 99 k = nI z) (hb : ¬ μ 98 k = 0) (hr : r = q_first (fun j => ¬ (0 ≤ μ 100 (40 * k + j) ∧ μ 100 (40 * k + j) ≤ 99)) 0 (min z 16)) (h : R (some (.int (nI r))) (gc_ob μ 84 (fun j => if 5 ≤ j ∧ j < 5 + r then μ 100 (40 * k + (j - 5)) else μ 84 j))) : gc_S (d + 3) 243 [.ref 83, .int (nI k)] μ R := by
  have h1 : 0 ≤ nI k ∧ nI k ≤ 3 := ⟨nI_pos' (by omega), (show nI k ≤ nI 3 from nI_le (by omega) (by omega))⟩
  have vs : vp_in (nI k) 4 := vp_in_nI hk (by decide)
  have cs : (nI k).toNatClampNeg = k := nI_clamp (by omega)
  have hmin : min z 16 ≤ z ∧ min z 16 ≤ 16 ∧ (min z 16 = z ∨ min z 16 = 16) := by omega
  simp only [s243, u243_0, u243_1, u243_4, u243_7, u243_8, u243_9, u243_12, u243_13, u243_14, u243_17, u243_18, u243_19, u243_22, u243_23, u243_24, u243_27, u243_28, u243_29, u243_31, u243_32, u243_35, u243_36, u243_37, u243_40, u243_41, u243_43, u243_46, u243_47, u243_50, u243_52, u243_53, u243_54, u243_55, u243_56, u243_57, u243_58, u243_59, u243_62, u243_65, u243_68, u243_69, u243_72, u243_73, u243_74, u243_75, u243_76, u243_79, u243_81, u243_82, u243_83, u243_84, u243_85, u243_86, u243_87, u243_90, u243_93, u243_94, ly_kd, ly_al, ly_fv0, ly_fv1, ly_fv2, ly_fv3, ly_fv4, ly_fk, ly_ra, Option.toList, List.cons_append, List.nil_append, q_ski, q_skr, q_sku, if_true, if_false, m_in, m_isCell, m_isMourner, m_isKm, m_isSheet, m_f1, m_f2, m_f3, m_f4, m_f5, q_b0, q_not, and_self, q_wl0, q_wl1, q_wl48, q_wu1, q_wu2, q_wu3, q_wu5, q_wu6, q_wu7, q_wu8, q_wu15, q_wu30, q_wu40, q_wu57, q_wu60, q_wu69, q_wu99, q_wu1584, fa_wide_le, q_up_o (show (84 : Nat) ≠ 79 by decide), h1, vs, cs, true_and, hb]
  have main : ∀ m c, c + m = min z 16 → r = q_first (fun j => ¬ (0 ≤ μ 100 (40 * k + j) ∧ μ 100 (40 * k + j) ≤ 99)) c m → gc_W (gc_S (d+2)) cX12_wets 12 0 R 30 [.ref 83, .int (nI k), .int (nI c)] [] (gc_ob μ 84 (fun j => if 5 ≤ j ∧ j < 5 + c then μ 100 (40 * k + (j - 5)) else μ 84 j)) := by
    intro m
    induction m with
    | zero =>
      intro c hc hq
      have hq : r = c := hq
      subst hq
      have e99 : gc_ob μ 84 (fun j => if 5 ≤ j ∧ j < 5 + r then μ 100 (40 * k + (j - 5)) else μ 84 j) 99 k = nI z := by rw [q_ob_n (by omega), hlen]
      refine (u243_30).mpr ?_
      by_cases e : z ≤ r
      · simp only [u243_0, u243_1, u243_4, u243_7, u243_8, u243_9, u243_12, u243_13, u243_14, u243_17, u243_18, u243_19, u243_22, u243_23, u243_24, u243_27, u243_28, u243_29, u243_31, u243_32, u243_35, u243_36, u243_37, u243_40, u243_41, u243_43, u243_46, u243_47, u243_50, u243_52, u243_53, u243_54, u243_55, u243_56, u243_57, u243_58, u243_59, u243_62, u243_65, u243_68, u243_69, u243_72, u243_73, u243_74, u243_75, u243_76, u243_79, u243_81, u243_82, u243_83, u243_84, u243_85, u243_86, u243_87, u243_90, u243_93, u243_94, ly_kd, ly_al, ly_fv0, ly_fv1, ly_fv2, ly_fv3, ly_fv4, ly_fk, ly_ra, Option.toList, List.cons_append, List.nil_append, q_ski, q_skr, q_sku, if_true, if_false, vs, cs, true_and, e99, show nI z ≤ nI r from nI_le e (by omega)]
        exact h
      · have e2 : (16 : Int32) ≤ nI r := (show nI 16 ≤ nI r from nI_le (by omega) (by omega))
        simp only [u243_0, u243_1, u243_4, u243_7, u243_8, u243_9, u243_12, u243_13, u243_14, u243_17, u243_18, u243_19, u243_22, u243_23, u243_24, u243_27, u243_28, u243_29, u243_31, u243_32, u243_35, u243_36, u243_37, u243_40, u243_41, u243_43, u243_46, u243_47, u243_50, u243_52, u243_53, u243_54, u243_55, u243_56, u243_57, u243_58, u243_59, u243_62, u243_65, u243_68, u243_69, u243_72, u243_73, u243_74, u243_75, u243_76, u243_79, u243_81, u243_82, u243_83, u243_84, u243_85, u243_86, u243_87, u243_90, u243_93, u243_94, ly_kd, ly_al, ly_fv0, ly_fv1, ly_fv2, ly_fv3, ly_fv4, ly_fk, ly_ra, Option.toList, List.cons_append, List.nil_append, q_ski, q_skr, q_sku, if_true, if_false, vs, cs, true_and, e99, show ¬ nI z ≤ nI r from nI_ge (by omega) (by omega), e2]
        exact h
    | succ m ih =>
      intro c hc hq
      have ef : q_first (fun j => ¬ (0 ≤ μ 100 (40 * k + j) ∧ μ 100 (40 * k + j) ≤ 99)) c (m + 1) = if ¬ (0 ≤ μ 100 (40 * k + c) ∧ μ 100 (40 * k + c) ≤ 99) then c else q_first (fun j => ¬ (0 ≤ μ 100 (40 * k + j) ∧ μ 100 (40 * k + j) ≤ 99)) (c + 1) m := rfl
      rw [ef] at hq
      have e99 : gc_ob μ 84 (fun j => if 5 ≤ j ∧ j < 5 + c then μ 100 (40 * k + (j - 5)) else μ 84 j) 99 k = nI z := by rw [q_ob_n (by omega), hlen]
      have e100 : ∀ j, gc_ob μ 84 (fun j => if 5 ≤ j ∧ j < 5 + c then μ 100 (40 * k + (j - 5)) else μ 84 j) 100 j = μ 100 j := fun j => by rw [q_ob_n (by omega)]
      have eu : upd (fun j => if 5 ≤ j ∧ j < 5 + c then μ 100 (40 * k + (j - 5)) else μ 84 j) (5 + c) (μ 100 (40 * k + c)) = fun j => if 5 ≤ j ∧ j < 5 + (c + 1) then μ 100 (40 * k + (j - 5)) else μ 84 j := funext fun j => by
        unfold upd
        by_cases e : j = 5 + c
        · rw [if_pos e, if_pos (by omega), e, show 5 + c - 5 = c by omega]
        · rw [if_neg e]
          dsimp only
          by_cases e2 : 5 ≤ j ∧ j < 5 + c
          · rw [if_pos e2, if_pos (by omega)]
          · rw [if_neg e2, if_neg (by omega)]
      refine (u243_30).mpr ?_
      by_cases g : 0 ≤ μ 100 (40 * k + c) ∧ μ 100 (40 * k + c) ≤ 99
      · rw [if_neg (fun q => q g)] at hq
        simp only [u243_0, u243_1, u243_4, u243_7, u243_8, u243_9, u243_12, u243_13, u243_14, u243_17, u243_18, u243_19, u243_22, u243_23, u243_24, u243_27, u243_28, u243_29, u243_31, u243_32, u243_35, u243_36, u243_37, u243_40, u243_41, u243_43, u243_46, u243_47, u243_50, u243_52, u243_53, u243_54, u243_55, u243_56, u243_57, u243_58, u243_59, u243_62, u243_65, u243_68, u243_69, u243_72, u243_73, u243_74, u243_75, u243_76, u243_79, u243_81, u243_82, u243_83, u243_84, u243_85, u243_86, u243_87, u243_90, u243_93, u243_94, ly_kd, ly_al, ly_fv0, ly_fv1, ly_fv2, ly_fv3, ly_fv4, ly_fk, ly_ra, Option.toList, List.cons_append, List.nil_append, q_ski, q_skr, q_sku, if_true, if_false, m_in, m_isCell, m_isMourner, m_isKm, m_isSheet, m_f1, m_f2, m_f3, m_f4, m_f5, q_b0, q_not, and_self, q_wl0, q_wl1, q_wl48, q_wu1, q_wu2, q_wu3, q_wu5, q_wu6, q_wu7, q_wu8, q_wu15, q_wu30, q_wu40, q_wu57, q_wu60, q_wu69, q_wu99, q_wu1584, fa_wide_le, q_up_o (show (84 : Nat) ≠ 79 by decide), vs, cs, true_and, e99, e100, q_nle (show c < z by omega) (by omega) rfl, q_nle (show c < 16 by omega) (by decide) (show (16 : Int32) = nI 16 from rfl), q_40, vp_in_nI (show 40 * k + c < 160 by omega) (by decide), nI_clamp (show 40 * k + c < 2 ^ 31 by omega), g, show (5 : Int32) + nI c = nI (5 + c) from nI_add 5 c, vp_in_nI (show 5 + c < 247 by omega) (by decide), nI_clamp (show 5 + c < 2 ^ 31 by omega), nI_1, q_ob_u, eu]
        exact ih (c + 1) (by omega) hq
      · rw [if_pos g] at hq
        subst hq
        simp only [u243_0, u243_1, u243_4, u243_7, u243_8, u243_9, u243_12, u243_13, u243_14, u243_17, u243_18, u243_19, u243_22, u243_23, u243_24, u243_27, u243_28, u243_29, u243_31, u243_32, u243_35, u243_36, u243_37, u243_40, u243_41, u243_43, u243_46, u243_47, u243_50, u243_52, u243_53, u243_54, u243_55, u243_56, u243_57, u243_58, u243_59, u243_62, u243_65, u243_68, u243_69, u243_72, u243_73, u243_74, u243_75, u243_76, u243_79, u243_81, u243_82, u243_83, u243_84, u243_85, u243_86, u243_87, u243_90, u243_93, u243_94, ly_kd, ly_al, ly_fv0, ly_fv1, ly_fv2, ly_fv3, ly_fv4, ly_fk, ly_ra, Option.toList, List.cons_append, List.nil_append, q_ski, q_skr, q_sku, if_true, if_false, m_in, m_isCell, m_isMourner, m_isKm, m_isSheet, m_f1, m_f2, m_f3, m_f4, m_f5, q_b0, q_not, and_self, q_wl0, q_wl1, q_wl48, q_wu1, q_wu2, q_wu3, q_wu5, q_wu6, q_wu7, q_wu8, q_wu15, q_wu30, q_wu40, q_wu57, q_wu60, q_wu69, q_wu99, q_wu1584, fa_wide_le, q_up_o (show (84 : Nat) ≠ 79 by decide), vs, cs, true_and, e99, e100, q_nle (show r < z by omega) (by omega) rfl, q_nle (show r < 16 by omega) (by decide) (show (16 : Int32) = nI 16 from rfl), q_40, vp_in_nI (show 40 * k + r < 160 by omega) (by decide), nI_clamp (show 40 * k + r < 2 ^ 31 by omega), g]
        exact h
  have st := main (min z 16) 0 (by omega) hr
  have e0 : (fun j => if 5 ≤ j ∧ j < 5 + 0 then μ 100 (40 * k + (j - 5)) else μ 84 j) = μ 84 := funext fun j => if_neg (by omega)
  rw [e0, q_ob_s] at st
  exact st
set_option maxHeartbeats 1000000 in
theorem p_wets {s : Int32} : q_P 133 243 [.ref 0, .int s] [.ref 83, .int s] := by
  intro μ R I hk
  obtain ⟨ok, ⟨y, hy, hy2⟩, hR, hL⟩ := q_c31 I
  by_cases h1 : 0 ≤ s ∧ s ≤ 3
  · obtain ⟨k, hk3, rfl⟩ := q_rng (n := 3) rfl h1
    have hk4 : k < 4 := by omega
    have vs : vp_in (nI k) 4 := vp_in_nI hk4 (by decide)
    have cs : (nI k).toNatClampNeg = k := nI_clamp (by omega)
    obtain ⟨b1, b2, b3, b4, b5, b6, b7, b8⟩ := q_S hk4
    obtain ⟨c1, ⟨z, hz, c2, c3⟩, c4⟩ := q_i31 I hk4
    simp only [s133, u133_0, u133_1, u133_4, u133_7, u133_8, u133_9, u133_12, u133_13, u133_14, u133_17, u133_18, u133_19, u133_20, u133_21, u133_24, u133_27, u133_28, u133_29, u133_32, u133_33, u133_34, u133_37, u133_39, u133_42, u133_43, u133_44, u133_48, u133_49, u133_52, u133_54, u133_55, u133_58, u133_60, u133_61, u133_64, u133_67, u133_69, u133_70, u133_71, u133_74, u133_77, u133_79, u133_80, u133_83, u133_85, u133_86, u133_87, u133_90, u133_93, u133_94, ly_kd, ly_al, ly_fv0, ly_fv1, ly_fv2, ly_fv3, ly_fv4, ly_fk, ly_ra, Option.toList, List.cons_append, List.nil_append, q_ski, q_skr, q_sku, if_true, if_false, t_upTo, t_isCell, t_isMourner, t_isKM, t_isUse, t_isSheet, t_ref1, t_ref2, t_ref3, t_ref4, t_ref5, q_b0, q_not, and_self, h1]
    rw [u133_18 (q := 24) rfl rfl]
    simp only [u133_0, u133_1, u133_4, u133_7, u133_8, u133_9, u133_12, u133_13, u133_14, u133_17, u133_18, u133_19, u133_20, u133_21, u133_24, u133_27, u133_28, u133_29, u133_32, u133_33, u133_34, u133_37, u133_39, u133_42, u133_43, u133_44, u133_48, u133_49, u133_52, u133_54, u133_55, u133_58, u133_60, u133_61, u133_64, u133_67, u133_69, u133_70, u133_71, u133_74, u133_77, u133_79, u133_80, u133_83, u133_85, u133_86, u133_87, u133_90, u133_93, u133_94, ly_kd, ly_al, ly_fv0, ly_fv1, ly_fv2, ly_fv3, ly_fv4, ly_fk, ly_ra, Option.toList, List.cons_append, List.nil_append, q_ski, q_skr, q_sku, if_true, if_false, t_upTo, t_isCell, t_isMourner, t_isKM, t_isUse, t_isSheet, t_ref1, t_ref2, t_ref3, t_ref4, t_ref5, q_b0, q_not, and_self, vs, cs, true_and, b1, b3, b4, c1, c3]
    by_cases b0 : μ 98 k = 0
    · have f98 : ∀ q x, gc_up μ 79 q x 98 k = μ 98 k := fun q x => by rw [gc_up_ne (by omega)]
      simp only [b0, if_true]
      refine hk _ _ (q_hi_up q_hi.rf (by omega)) (fun R2 hr2 => ?_)
      simp only [s243, u243_0, u243_1, u243_4, u243_7, u243_8, u243_9, u243_12, u243_13, u243_14, u243_17, u243_18, u243_19, u243_22, u243_23, u243_24, u243_27, u243_28, u243_29, u243_31, u243_32, u243_35, u243_36, u243_37, u243_40, u243_41, u243_43, u243_46, u243_47, u243_50, u243_52, u243_53, u243_54, u243_55, u243_56, u243_57, u243_58, u243_59, u243_62, u243_65, u243_68, u243_69, u243_72, u243_73, u243_74, u243_75, u243_76, u243_79, u243_81, u243_82, u243_83, u243_84, u243_85, u243_86, u243_87, u243_90, u243_93, u243_94, ly_kd, ly_al, ly_fv0, ly_fv1, ly_fv2, ly_fv3, ly_fv4, ly_fk, ly_ra, Option.toList, List.cons_append, List.nil_append, q_ski, q_skr, q_sku, if_true, if_false, m_in, m_isCell, m_isMourner, m_isKm, m_isSheet, m_f1, m_f2, m_f3, m_f4, m_f5, q_b0, q_not, and_self, q_wl0, q_wl1, q_wl48, q_wu1, q_wu2, q_wu3, q_wu5, q_wu6, q_wu7, q_wu8, q_wu15, q_wu30, q_wu40, q_wu57, q_wu60, q_wu69, q_wu99, q_wu1584, fa_wide_le, q_up_o (show (84 : Nat) ≠ 79 by decide), h1, vs, cs, true_and, f98, b0]
      exact q_P_ref I (by omega) q_fx.rf.fy q_fx.rf.fy hr2
    · rw [if_neg b0, show (16 : Int32) = nI 16 from rfl, q_mn (by omega) (by decide)]
      have hmin : min z 16 ≤ z ∧ min z 16 ≤ 16 := by omega
      generalize hrr : q_first (fun j => ¬ (0 ≤ μ 100 (40 * k + j) ∧ μ 100 (40 * k + j) ≤ 99)) 0 (min z 16) = r
      have r16 : r ≤ 16 := by have := q_first_le (fun j => ¬ (0 ≤ μ 100 (40 * k + j) ∧ μ 100 (40 * k + j) ≤ 99)) (min z 16) 0; omega
      have fin : R (some (.int (nI r))) (gc_ob μ 32 (fun j => if j < r then μ 100 (40 * k + j) else μ 32 j)) := by
        have n1 : ∀ o, o ≠ 32 → gc_ob μ 32 (fun j => if j < r then μ 100 (40 * k + j) else μ 32 j) o = μ o := fun o ho => q_ob_n ho
        have n2 : gc_ob μ 32 (fun j => if j < r then μ 100 (40 * k + j) else μ 32 j) 32 = fun j => if j < r then μ 100 (40 * k + j) else μ 32 j := q_ob_e
        refine hk _ _ (fun o ho => n1 o (by omega)) (fun R2 hr2 => ?_)
        generalize gc_ob μ 32 (fun j => if j < r then μ 100 (40 * k + j) else μ 32 j) = μ1 at n1 n2 hr2 ⊢
        have e100 : μ1 100 = μ 100 := n1 _ (by omega)
        refine m_wets (r := r) hk4 hz (by rw [n1 _ (by omega), c2]) (by rw [n1 _ (by omega)]; exact b0) (by rw [e100]; exact hrr.symm) ?_
        rw [e100, n1 84 (by omega)]
        have D1 : ∀ j, ¬ (5 ≤ j ∧ j < 5 + r) → (fun j => if 5 ≤ j ∧ j < 5 + r then μ 100 (40 * k + (j - 5)) else μ 84 j) j = μ 84 j := fun j hj => if_neg hj
        have D2 : ∀ j, j < r → (fun j => if 5 ≤ j ∧ j < 5 + r then μ 100 (40 * k + (j - 5)) else μ 84 j) (5 + j) = μ 100 (40 * k + j) := fun j hj => by
          dsimp only
          rw [if_pos (by omega), show 5 + j - 5 = j by omega]
        generalize (fun j => if 5 ≤ j ∧ j < 5 + r then μ 100 (40 * k + (j - 5)) else μ 84 j) = D' at D1 D2 ⊢
        have okD : q_ok D' := by
          refine q_ok_of ok (fun j hj => ?_) (fun j _ => Or.inr (D1 _ (by omega))) (fun j h1 _ => D1 _ (by omega))
          by_cases e : j < r
          · have := q_first_no (fun j => ¬ (0 ≤ μ 100 (40 * k + j) ∧ μ 100 (40 * k + j) ≤ 99)) (min z 16) 0 j (by omega) (by rw [hrr]; exact e)
            have g : 0 ≤ μ 100 (40 * k + j) ∧ μ 100 (40 * k + j) ≤ 99 := Decidable.not_not.mp this
            obtain ⟨x, hx, ex⟩ := q_rng (n := 99) rfl g
            refine Or.inl ⟨nI x, ?_⟩
            rw [D2 j e, ex]
            exact (q_hd_id (by rw [nI_toInt (by omega)]; omega) (by rw [nI_toInt (by omega)]; omega)).symm
          · exact Or.inr (D1 _ (by omega))
        have R1 : q_R 31 D' μ1 := by
          obtain ⟨g1, g2, g3, g4, g5, g6, g7, g8, g9⟩ := hR
          refine ⟨fun j hj => ?_, fun j hj => ?_, fun j hj => ?_, fun j hj => ?_, fun j hj => ?_, fun j hj => ?_, ?_, ?_, ?_⟩
          · rw [n2]
            dsimp only
            by_cases e : j < r
            · rw [if_pos e, D2 j e]
            · rw [if_neg e, D1 _ (by omega)]; exact g1 j hj
          · rw [n1 _ (by omega), D1 _ (by omega)]; exact g2 j hj
          · rw [n1 _ (by omega), D1 _ (by omega)]; exact g3 j hj
          · rw [n1 _ (by omega), D1 _ (by omega)]; exact g4 j hj
          · rw [n1 _ (by omega), D1 _ (by omega)]; exact g5 j hj
          · rw [n1 _ (by omega), D1 _ (by omega)]; exact g6 j hj
          · rw [n1 _ (by omega), g7]; exact q_set_cong (fun j hj => by rw [D1 _ (by omega)])
          · rw [n1 _ (by omega), D1 _ (by omega)]; exact g8
          · rw [n1 _ (by omega), D1 _ (by omega)]; exact g9
        obtain ⟨a, b⟩ := q_I_yr I okD ⟨y, (D1 1 (by omega)).trans hy, hy2⟩ R1 (by rw [n1 _ (by omega), D1 _ (by omega)]; exact q_I_z I) (D1 3 (by omega)) (D1 4 (by omega)) (fun j hj => D1 j (by omega)) (fun o a _ _ => n1 o (by omega)) (gc_ob μ1 84 D') (fun o a _ _ _ => q_ob_n a) q_ob_e
        exact hr2 _ a b
      have main : ∀ m c, c + m = min z 16 → r = q_first (fun j => ¬ (0 ≤ μ 100 (40 * k + j) ∧ μ 100 (40 * k + j) ≤ 99)) c m → gc_W (gc_S (99)) cX11_wets 11 0 R 46 [.ref 0, .int (nI k), .ref (68 + 2 * k), .int (nI (min z 16)), .int (nI c)] [] (gc_ob μ 32 (fun j => if j < c then μ 100 (40 * k + j) else μ 32 j)) := by
        intro m
        induction m with
        | zero =>
          intro c hc hq
          have hq : r = c := hq
          have hc : c = min z 16 := hc
          refine (u133_46).mpr ?_
          rw [← hc]
          simp only [u133_0, u133_1, u133_4, u133_7, u133_8, u133_9, u133_12, u133_13, u133_14, u133_17, u133_18, u133_19, u133_20, u133_21, u133_24, u133_27, u133_28, u133_29, u133_32, u133_33, u133_34, u133_37, u133_39, u133_42, u133_43, u133_44, u133_48, u133_49, u133_52, u133_54, u133_55, u133_58, u133_60, u133_61, u133_64, u133_67, u133_69, u133_70, u133_71, u133_74, u133_77, u133_79, u133_80, u133_83, u133_85, u133_86, u133_87, u133_90, u133_93, u133_94, show nI c ≤ nI c from Int32.le_refl _, if_true]
          rw [← hq]
          exact fin
        | succ m ih =>
          intro c hc hq
          have ef : q_first (fun j => ¬ (0 ≤ μ 100 (40 * k + j) ∧ μ 100 (40 * k + j) ≤ 99)) c (m + 1) = if ¬ (0 ≤ μ 100 (40 * k + c) ∧ μ 100 (40 * k + c) ≤ 99) then c else q_first (fun j => ¬ (0 ≤ μ 100 (40 * k + j) ∧ μ 100 (40 * k + j) ≤ 99)) (c + 1) m := rfl
          rw [ef] at hq
          have er : gc_ob μ 32 (fun j => if j < c then μ 100 (40 * k + j) else μ 32 j) (69 + 2 * k) c = μ 100 (40 * k + c) := by rw [q_ob_n (by omega)]; exact c4 c (by omega)
          have eu : upd (fun j => if j < c then μ 100 (40 * k + j) else μ 32 j) c (μ 100 (40 * k + c)) = fun j => if j < c + 1 then μ 100 (40 * k + j) else μ 32 j := funext fun j => by
            unfold upd
            by_cases e : j = c
            · rw [if_pos e, if_pos (by omega), e]
            · rw [if_neg e]
              dsimp only
              by_cases e2 : j < c
              · rw [if_pos e2, if_pos (by omega)]
              · rw [if_neg e2, if_neg (by omega)]
          refine (u133_46).mpr ?_
          by_cases g : 0 ≤ μ 100 (40 * k + c) ∧ μ 100 (40 * k + c) ≤ 99
          · rw [if_neg (fun q => q g)] at hq
            simp only [u133_0, u133_1, u133_4, u133_7, u133_8, u133_9, u133_12, u133_13, u133_14, u133_17, u133_18, u133_19, u133_20, u133_21, u133_24, u133_27, u133_28, u133_29, u133_32, u133_33, u133_34, u133_37, u133_39, u133_42, u133_43, u133_44, u133_48, u133_49, u133_52, u133_54, u133_55, u133_58, u133_60, u133_61, u133_64, u133_67, u133_69, u133_70, u133_71, u133_74, u133_77, u133_79, u133_80, u133_83, u133_85, u133_86, u133_87, u133_90, u133_93, u133_94, ly_kd, ly_al, ly_fv0, ly_fv1, ly_fv2, ly_fv3, ly_fv4, ly_fk, ly_ra, Option.toList, List.cons_append, List.nil_append, q_ski, q_skr, q_sku, if_true, if_false, t_upTo, t_isCell, t_isMourner, t_isKM, t_isUse, t_isSheet, t_ref1, t_ref2, t_ref3, t_ref4, t_ref5, q_b0, q_not, and_self, q_nle (show c < min z 16 by omega) (show min z 16 < 2 ^ 31 by omega) rfl, b1, b2, b5, b6, vp_in_nI (show c < 40 by omega) (by decide), nI_clamp (show c < 2 ^ 31 by omega), true_and, er, g, vp_in_nI (show c < 16 by omega) (by decide), nI_1, q_ob_u, eu]
            exact ih (c + 1) (by omega) hq
          · rw [if_pos g] at hq
            subst hq
            simp only [u133_0, u133_1, u133_4, u133_7, u133_8, u133_9, u133_12, u133_13, u133_14, u133_17, u133_18, u133_19, u133_20, u133_21, u133_24, u133_27, u133_28, u133_29, u133_32, u133_33, u133_34, u133_37, u133_39, u133_42, u133_43, u133_44, u133_48, u133_49, u133_52, u133_54, u133_55, u133_58, u133_60, u133_61, u133_64, u133_67, u133_69, u133_70, u133_71, u133_74, u133_77, u133_79, u133_80, u133_83, u133_85, u133_86, u133_87, u133_90, u133_93, u133_94, ly_kd, ly_al, ly_fv0, ly_fv1, ly_fv2, ly_fv3, ly_fv4, ly_fk, ly_ra, Option.toList, List.cons_append, List.nil_append, q_ski, q_skr, q_sku, if_true, if_false, t_upTo, t_isCell, t_isMourner, t_isKM, t_isUse, t_isSheet, t_ref1, t_ref2, t_ref3, t_ref4, t_ref5, q_b0, q_not, and_self, q_nle (show r < min z 16 by omega) (show min z 16 < 2 ^ 31 by omega) rfl, b1, b2, b5, b6, vp_in_nI (show r < 40 by omega) (by decide), nI_clamp (show r < 2 ^ 31 by omega), true_and, er, g]
            exact fin
      have st := main (min z 16) 0 (by omega) hrr.symm
      have e0 : (fun j => if j < 0 then μ 100 (40 * k + j) else μ 32 j) = μ 32 := funext fun j => if_neg (by omega)
      rw [e0, q_ob_s] at st
      exact st
  · exact (by
      simp only [s133, u133_0, u133_1, u133_4, u133_7, u133_8, u133_9, u133_12, u133_13, u133_14, u133_17, u133_18, u133_19, u133_20, u133_21, u133_24, u133_27, u133_28, u133_29, u133_32, u133_33, u133_34, u133_37, u133_39, u133_42, u133_43, u133_44, u133_48, u133_49, u133_52, u133_54, u133_55, u133_58, u133_60, u133_61, u133_64, u133_67, u133_69, u133_70, u133_71, u133_74, u133_77, u133_79, u133_80, u133_83, u133_85, u133_86, u133_87, u133_90, u133_93, u133_94, ly_kd, ly_al, ly_fv0, ly_fv1, ly_fv2, ly_fv3, ly_fv4, ly_fk, ly_ra, Option.toList, List.cons_append, List.nil_append, q_ski, q_skr, q_sku, if_true, if_false, t_upTo, t_isCell, t_isMourner, t_isKM, t_isUse, t_isSheet, t_ref1, t_ref2, t_ref3, t_ref4, t_ref5, q_b0, q_not, and_self, h1]
      refine hk _ _ (q_hi_up q_hi.rf (by omega)) (fun R2 hr2 => ?_)
      simp only [s243, u243_0, u243_1, u243_4, u243_7, u243_8, u243_9, u243_12, u243_13, u243_14, u243_17, u243_18, u243_19, u243_22, u243_23, u243_24, u243_27, u243_28, u243_29, u243_31, u243_32, u243_35, u243_36, u243_37, u243_40, u243_41, u243_43, u243_46, u243_47, u243_50, u243_52, u243_53, u243_54, u243_55, u243_56, u243_57, u243_58, u243_59, u243_62, u243_65, u243_68, u243_69, u243_72, u243_73, u243_74, u243_75, u243_76, u243_79, u243_81, u243_82, u243_83, u243_84, u243_85, u243_86, u243_87, u243_90, u243_93, u243_94, ly_kd, ly_al, ly_fv0, ly_fv1, ly_fv2, ly_fv3, ly_fv4, ly_fk, ly_ra, Option.toList, List.cons_append, List.nil_append, q_ski, q_skr, q_sku, if_true, if_false, m_in, m_isCell, m_isMourner, m_isKm, m_isSheet, m_f1, m_f2, m_f3, m_f4, m_f5, q_b0, q_not, and_self, q_wl0, q_wl1, q_wl48, q_wu1, q_wu2, q_wu3, q_wu5, q_wu6, q_wu7, q_wu8, q_wu15, q_wu30, q_wu40, q_wu57, q_wu60, q_wu69, q_wu99, q_wu1584, fa_wide_le, q_up_o (show (84 : Nat) ≠ 79 by decide), h1]
      exact q_P_ref I (by omega) q_fx.rf.fy q_fx.rf.fy hr2)
