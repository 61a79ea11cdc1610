/-! rows that grow, images -/
def q_Rw (r n : Nat) : Prop := gc_kd r = 7 ∧ (∀ μ, gc_fv r 0 μ = .ref (r + 1)) ∧ (∀ μ, gc_fv r 1 μ = .int (μ r 1)) ∧ gc_kd (r + 1) = 20 ∧ gc_al (r + 1) = n ∧ gc_fk r 1 = 0
theorem t_add {d : Nat} {R : gR} {μ : gM} {r n t : Nat} {v : Int32} (W : q_Rw r n) (hn : n < 100) (ht : μ r 1 = nI t) (htn : t < n) : gc_S (d + 1) 41 [.ref r, .int v] μ R ↔ R none (gc_up (gc_up μ (r + 1) t v) r 1 (nI (t + 1))) := by
  obtain ⟨w1, w2, w3, w4, w5, w6⟩ := W
  have e : gc_up μ (r + 1) t v r 1 = nI t := by rw [gc_up_ne (by omega), ht]
  simp only [s41, u41_0, u41_1, u41_4, u41_5, u41_8, u41_9, u41_12, u41_13, u41_16, u41_17, u41_20, u41_21, u41_22, u41_23, u41_24, u41_27, u41_28, u41_29, u41_32, Option.toList, List.cons_append, List.nil_append, q_ski, q_skr, q_sku, if_true, if_false, w1, w2, w3, w4, w5, w6, ht, q_nle htn (show n < 2 ^ 31 by omega) rfl, vp_in_nI htn (show n < 2 ^ 31 by omega), nI_clamp (show t < 2 ^ 31 by omega), true_and, e, nI_1]
theorem t_addF {d : Nat} {R : gR} {μ : gM} {r n : Nat} {v : Int32} (W : q_Rw r n) (ht : μ r 1 = nI n) : gc_S (d + 1) 41 [.ref r, .int v] μ R ↔ R none μ := by
  obtain ⟨w1, w2, w3, w4, w5, w6⟩ := W
  simp only [s41, u41_0, u41_1, u41_4, u41_5, u41_8, u41_9, u41_12, u41_13, u41_16, u41_17, u41_20, u41_21, u41_22, u41_23, u41_24, u41_27, u41_28, u41_29, u41_32, Option.toList, List.cons_append, List.nil_append, q_ski, q_skr, q_sku, if_true, if_false, w1, w2, w3, w4, w5, w6, ht, show nI n ≤ nI n from Int32.le_refl _]
theorem t_rowTakes {d : Nat} {R : gR} {μ : gM} {r o n t : Nat} (W : q_Rw r n) (O : q_Rw o n) (hro : r + 1 < o ∨ o + 1 < r) (hn : n < 100) (ht : μ o 1 = nI t) (htn : t ≤ n) : gc_S (d + 1) 1 [.ref r, .ref o] μ R ↔ R none (gc_cp (gc_up μ r 1 (nI t)) (o + 1) (r + 1) 0 0 t) := by
  obtain ⟨w1, w2, w3, w4, w5, w6⟩ := W
  obtain ⟨o1, o2, o3, o4, o5, o6⟩ := O
  simp only [s1, u1_0, u1_1, u1_2, u1_5, u1_8, u1_9, u1_12, u1_13, u1_14, u1_17, u1_18, u1_19, u1_22, u1_25, Option.toList, List.cons_append, List.nil_append, q_ski, q_skr, q_sku, if_true, if_false, w1, w2, w3, w4, w5, w6, o1, o2, o3, o4, o5, ht, q_up_same, nI_clamp (show t < 2 ^ 31 by omega)]
  exact and_iff_right ⟨by decide, by decide, nI_pos (by omega), (show 0 + t ≤ n by omega), (show 0 + t ≤ n by omega)⟩
theorem q_rw12 : q_Rw 12 50 ∧ q_Rw 16 50 ∧ q_Rw 20 50 ∧ q_Rw 24 50 ∧ q_Rw 28 50 ∧ q_Rw 39 50 ∧ q_Rw 41 20 ∧ q_Rw 63 50 ∧ q_Rw 65 20 ∧ q_Rw 77 40 ∧ q_Rw 80 48 := ⟨⟨rfl, fun _ => rfl, fun _ => rfl, rfl, rfl, rfl⟩, ⟨rfl, fun _ => rfl, fun _ => rfl, rfl, rfl, rfl⟩, ⟨rfl, fun _ => rfl, fun _ => rfl, rfl, rfl, rfl⟩, ⟨rfl, fun _ => rfl, fun _ => rfl, rfl, rfl, rfl⟩, ⟨rfl, fun _ => rfl, fun _ => rfl, rfl, rfl, rfl⟩, ⟨rfl, fun _ => rfl, fun _ => rfl, rfl, rfl, rfl⟩, ⟨rfl, fun _ => rfl, fun _ => rfl, rfl, rfl, rfl⟩, ⟨rfl, fun _ => rfl, fun _ => rfl, rfl, rfl, rfl⟩, ⟨rfl, fun _ => rfl, fun _ => rfl, rfl, rfl, rfl⟩, ⟨rfl, fun _ => rfl, fun _ => rfl, rfl, rfl, rfl⟩, ⟨rfl, fun _ => rfl, fun _ => rfl, rfl, rfl, rfl⟩⟩
/-- a row has taken another's numbers -/
theorem q_took {μ : gM} {r o t : Nat} : (∀ o', o' ≠ r → o' ≠ r + 1 → gc_cp (gc_up μ r 1 (nI t)) (o + 1) (r + 1) 0 0 t o' = μ o') ∧ gc_cp (gc_up μ r 1 (nI t)) (o + 1) (r + 1) 0 0 t r 1 = nI t ∧ (o ≠ r → o + 1 ≠ r → ∀ j, j < t → gc_cp (gc_up μ r 1 (nI t)) (o + 1) (r + 1) 0 0 t (r + 1) j = μ (o + 1) j) := by
  refine ⟨fun o' a b => by rw [gc_cp_ne b, gc_up_ne a], by rw [gc_cp_ne (by omega), q_up_same], fun h1 h2 j hj => ?_⟩
  rw [gc_cp_eq, pk_cpy_in (by omega) (by omega), show 0 + (j - 0) = j by omega, gc_up_ne h2]
theorem q_wfn {D : Nat → Int32} (h : q_wfD D) {u : Nat} (hu : u < 2) : ∃ t, D (75 + u) = nI t ∧ t ≤ 50 := by
  obtain ⟨n, hn, hw⟩ := h u hu
  exact ⟨n, hn, hw.1⟩
set_option maxHeartbeats 1000000 in
theorem t_takesAll31 {d : Nat} {R : gR} {μ : gM} {D : Nat → Int32} (C : q_CL 55 19 D μ) (h : ∀ μ', (∀ o, ¬ ((31 ≤ o ∧ o ≤ 42 ∧ o ≠ 33) ∨ o = 12 ∨ o = 13 ∨ o = 16 ∨ o = 17) → μ' o = μ o) → q_CL 31 11 D μ' → R none μ') : gc_S (d + 2) 2 [.ref 31, .ref 55] μ R := by
  obtain ⟨ok, hy, hR, hz, hL, ⟨tt, t1, t2, t3, t4⟩, ⟨ww, w1, w2, w3, w4⟩⟩ := C
  obtain ⟨r12, r16, r20, r24, r28, r39, r41, r63, r65, r77, r80⟩ := q_rw12
  obtain ⟨n0, hn0, hn05⟩ := q_wfn ok.2.2.2.2.2.2 (show 0 < 2 by omega)
  obtain ⟨n1, hn1, hn15⟩ := q_wfn ok.2.2.2.2.2.2 (show 1 < 2 by omega)
  obtain ⟨l0, l0'⟩ := hL 0 (by omega)
  obtain ⟨l1, l1'⟩ := hL 1 (by omega)
  have l0'' := l0' n0 hn05 hn0
  have l1'' := l1' n1 hn15 hn1
  simp only [s2, u2_0, u2_1, u2_2, u2_5, u2_6, u2_9, u2_11, u2_14, u2_15, u2_18, u2_19, u2_20, u2_23, u2_26, u2_27, u2_30, u2_31, u2_32, u2_35, u2_36, u2_39, u2_40, u2_41, u2_44, u2_47, u2_48, u2_51, u2_52, u2_55, u2_58, u2_59, u2_62, u2_63, u2_66, u2_69, u2_70, u2_71, u2_74, u2_77, ly_kd, ly_al, ly_fv0, ly_fv1, ly_fv2, ly_fv3, ly_fv4, ly_fk, ly_ra, Option.toList, List.cons_append, List.nil_append, q_ski, q_skr, q_sku, if_true, if_false]
  rw [t_takes q_K31 q_K55]
  obtain ⟨R0, f0, f2, -⟩ := q_tks_R (k := 31) (j := 55) (by omega) hR
  have z0 : q_tks μ 31 55 55 14 = μ 55 14 := by rw [f0 55 (by omega)]
  generalize q_tks μ 31 55 = μ0 at R0 f0 f2 z0 ⊢
  simp only [u2_0, u2_1, u2_2, u2_5, u2_6, u2_9, u2_11, u2_14, u2_15, u2_18, u2_19, u2_20, u2_23, u2_26, u2_27, u2_30, u2_31, u2_32, u2_35, u2_36, u2_39, u2_40, u2_41, u2_44, u2_47, u2_48, u2_51, u2_52, u2_55, u2_58, u2_59, u2_62, u2_63, u2_66, u2_69, u2_70, u2_71, u2_74, u2_77, ly_kd, ly_al, ly_fv0, ly_fv1, ly_fv2, ly_fv3, ly_fv4, ly_fk, ly_ra, Option.toList, List.cons_append, List.nil_append, q_ski, q_skr, q_sku, if_true, if_false]
  rw [u2_10 (q := 23) rfl rfl]
  simp only [u2_0, u2_1, u2_2, u2_5, u2_6, u2_9, u2_11, u2_14, u2_15, u2_18, u2_20, u2_23, u2_26, u2_27, u2_30, u2_31, u2_32, u2_35, u2_36, u2_39, u2_40, u2_41, u2_44, u2_47, u2_48, u2_51, u2_52, u2_55, u2_58, u2_59, u2_62, u2_63, u2_66, u2_69, u2_70, u2_71, u2_74, u2_77, ly_kd, ly_al, ly_fv0, ly_fv1, ly_fv2, ly_fv3, ly_fv4, ly_fk, ly_ra, Option.toList, List.cons_append, List.nil_append, q_ski, q_skr, q_sku, if_true, if_false, q_tn, vp_in_nI (n := 0) (N := 2) (by omega) (by decide), show vp_in 0 2 from vp_in_nI (n := 0) (by omega) (by decide), true_and, Nat.mul_zero, Nat.add_zero, Nat.mul_one]
  rw [u2_19 (q := 23) rfl rfl]
  simp only [u2_0, u2_1, u2_2, u2_5, u2_6, u2_9, u2_11, u2_14, u2_15, u2_18, u2_20, u2_23, u2_26, u2_27, u2_30, u2_32, u2_35, u2_36, u2_39, u2_40, u2_41, u2_44, u2_47, u2_48, u2_51, u2_52, u2_55, u2_58, u2_59, u2_62, u2_63, u2_66, u2_69, u2_70, u2_71, u2_74, u2_77, ly_kd, ly_al, ly_fv0, ly_fv1, ly_fv2, ly_fv3, ly_fv4, ly_fk, ly_ra, Option.toList, List.cons_append, List.nil_append, q_ski, q_skr, q_sku, if_true, if_false, q_tn, show vp_in 0 2 from vp_in_nI (n := 0) (by omega) (by decide), true_and, Nat.mul_zero, Nat.add_zero, Nat.mul_one]
  rw [t_rowTakes (n := 50) (t := n0) r12 r20 (by omega) (by omega) (by rw [f0 20 (by omega)]; exact l0.trans hn0) hn05]
  obtain ⟨a1, a2, a3⟩ := @q_took μ0 12 20 n0
  generalize gc_cp (gc_up μ0 12 1 (nI n0)) (20 + 1) (12 + 1) 0 0 n0 = μ1 at a1 a2 a3 ⊢
  simp only [u2_0, u2_1, u2_2, u2_5, u2_6, u2_9, u2_11, u2_14, u2_15, u2_18, u2_20, u2_23, u2_26, u2_27, u2_30, u2_32, u2_35, u2_36, u2_39, u2_40, u2_41, u2_44, u2_47, u2_48, u2_51, u2_52, u2_55, u2_58, u2_59, u2_62, u2_63, u2_66, u2_69, u2_70, u2_71, u2_74, u2_77, ly_kd, ly_al, ly_fv0, ly_fv1, ly_fv2, ly_fv3, ly_fv4, ly_fk, ly_ra, Option.toList, List.cons_append, List.nil_append, q_ski, q_skr, q_sku, if_true, if_false]
  rw [u2_31 (q := 23) rfl rfl]
  simp only [u2_0, u2_1, u2_2, u2_5, u2_6, u2_9, u2_11, u2_14, u2_15, u2_18, u2_20, u2_23, u2_26, u2_27, u2_30, u2_32, u2_35, u2_36, u2_39, u2_41, u2_44, u2_47, u2_48, u2_51, u2_52, u2_55, u2_58, u2_59, u2_62, u2_63, u2_66, u2_69, u2_70, u2_71, u2_74, u2_77, ly_kd, ly_al, ly_fv0, ly_fv1, ly_fv2, ly_fv3, ly_fv4, ly_fk, ly_ra, Option.toList, List.cons_append, List.nil_append, q_ski, q_skr, q_sku, if_true, if_false, q_tn, show vp_in 1 2 from vp_in_nI (n := 1) (by omega) (by decide), true_and, Nat.mul_zero, Nat.add_zero, Nat.mul_one, Nat.reduceAdd]
  rw [u2_40 (q := 23) rfl rfl]
  simp only [u2_0, u2_1, u2_2, u2_5, u2_6, u2_9, u2_11, u2_14, u2_15, u2_18, u2_20, u2_23, u2_26, u2_27, u2_30, u2_32, u2_35, u2_36, u2_39, u2_41, u2_44, u2_47, u2_48, u2_51, u2_52, u2_55, u2_58, u2_59, u2_62, u2_63, u2_66, u2_69, u2_70, u2_71, u2_74, u2_77, ly_kd, ly_al, ly_fv0, ly_fv1, ly_fv2, ly_fv3, ly_fv4, ly_fk, ly_ra, Option.toList, List.cons_append, List.nil_append, q_ski, q_skr, q_sku, if_true, if_false, q_tn, show vp_in 1 2 from vp_in_nI (n := 1) (by omega) (by decide), true_and, Nat.mul_zero, Nat.add_zero, Nat.mul_one, Nat.reduceAdd]
  rw [t_rowTakes (n := 50) (t := n1) r16 r24 (by omega) (by omega) (by rw [a1 24 (by omega) (by omega), f0 24 (by omega)]; exact l1.trans hn1) hn15]
  obtain ⟨b1, b2, b3⟩ := @q_took μ1 16 24 n1
  generalize gc_cp (gc_up μ1 16 1 (nI n1)) (24 + 1) (16 + 1) 0 0 n1 = μ2 at b1 b2 b3 ⊢
  simp only [u2_0, u2_1, u2_2, u2_5, u2_6, u2_9, u2_11, u2_14, u2_15, u2_18, u2_20, u2_23, u2_26, u2_27, u2_30, u2_32, u2_35, u2_36, u2_39, u2_41, u2_44, u2_47, u2_48, u2_51, u2_52, u2_55, u2_58, u2_59, u2_62, u2_63, u2_66, u2_69, u2_70, u2_71, u2_74, u2_77, ly_kd, ly_al, ly_fv0, ly_fv1, ly_fv2, ly_fv3, ly_fv4, ly_fk, ly_ra, Option.toList, List.cons_append, List.nil_append, q_ski, q_skr, q_sku, if_true, if_false]
  rw [t_rowTakes (n := 50) (t := tt) r39 r63 (by omega) (by omega) (by rw [b1 63 (by omega) (by omega), a1 63 (by omega) (by omega), f0 63 (by omega)]; exact t3) t2]
  obtain ⟨c1, c2, c3⟩ := @q_took μ2 39 63 tt
  generalize gc_cp (gc_up μ2 39 1 (nI tt)) (63 + 1) (39 + 1) 0 0 tt = μ3 at c1 c2 c3 ⊢
  simp only [u2_0, u2_1, u2_2, u2_5, u2_6, u2_9, u2_11, u2_14, u2_15, u2_18, u2_20, u2_23, u2_26, u2_27, u2_30, u2_32, u2_35, u2_36, u2_39, u2_41, u2_44, u2_47, u2_48, u2_51, u2_52, u2_55, u2_58, u2_59, u2_62, u2_63, u2_66, u2_69, u2_70, u2_71, u2_74, u2_77, ly_kd, ly_al, ly_fv0, ly_fv1, ly_fv2, ly_fv3, ly_fv4, ly_fk, ly_ra, Option.toList, List.cons_append, List.nil_append, q_ski, q_skr, q_sku, if_true, if_false]
  rw [t_rowTakes (n := 20) (t := ww) r41 r65 (by omega) (by omega) (by rw [c1 65 (by omega) (by omega), b1 65 (by omega) (by omega), a1 65 (by omega) (by omega), f0 65 (by omega)]; exact w3) w2]
  obtain ⟨e1, e2, e3⟩ := @q_took μ3 41 65 ww
  generalize gc_cp (gc_up μ3 41 1 (nI ww)) (65 + 1) (41 + 1) 0 0 ww = μ4 at e1 e2 e3 ⊢
  simp only [u2_0, u2_1, u2_2, u2_5, u2_6, u2_9, u2_11, u2_14, u2_15, u2_18, u2_20, u2_23, u2_26, u2_27, u2_30, u2_32, u2_35, u2_36, u2_39, u2_41, u2_44, u2_47, u2_48, u2_51, u2_52, u2_55, u2_58, u2_59, u2_62, u2_63, u2_66, u2_69, u2_70, u2_71, u2_74, u2_77, ly_kd, ly_al, ly_fv0, ly_fv1, ly_fv2, ly_fv3, ly_fv4, ly_fk, ly_ra, Option.toList, List.cons_append, List.nil_append, q_ski, q_skr, q_sku, if_true, if_false]
  have m : ∀ o, o ≠ 12 → o ≠ 13 → o ≠ 16 → o ≠ 17 → o ≠ 39 → o ≠ 40 → o ≠ 41 → o ≠ 42 → μ4 o = μ0 o := fun o x1 x2 x3 x4 x5 x6 x7 x8 => by rw [e1 o x7 x8, c1 o x5 x6, b1 o x3 x4, a1 o x1 x2]
  have ez : μ4 55 14 = D 2 := by rw [m 55 (by omega) (by omega) (by omega) (by omega) (by omega) (by omega) (by omega) (by omega), z0]; exact hz
  rw [ez]
  have mz : ∀ o, o ≠ 31 → gc_up μ4 31 14 (D 2) o = μ4 o := fun o ho => gc_up_ne ho
  refine h _ (fun o ho => ?_) ⟨ok, hy, q_R_z (q_R_mem R0 (fun o a b _ => m o (by omega) (by omega) (by omega) (by omega) (by omega) (by omega) (by omega) (by omega))), q_up_same, fun u hu => ?_, ⟨tt, t1, t2, ?_, fun i hi => ?_⟩, ⟨ww, w1, w2, ?_, fun i hi => ?_⟩⟩
  · by_cases e2 : o = 33
    · subst e2
      rw [mz _ (by omega), m _ (by omega) (by omega) (by omega) (by omega) (by omega) (by omega) (by omega) (by omega)]
      exact f2
    · rw [mz o (by omega), m o (by omega) (by omega) (by omega) (by omega) (by omega) (by omega) (by omega) (by omega), f0 o (by omega)]
  · rcases (show u = 0 ∨ u = 1 by omega) with rfl | rfl
    · refine ⟨?_, fun n hn5 hn i hi => ?_⟩
      · rw [mz _ (by omega), e1 _ (by omega) (by omega), c1 _ (by omega) (by omega), b1 _ (by omega) (by omega), hn0]; exact a2
      · have hi0 : i < n0 := by rw [← (nI_eq (show n < 2 ^ 31 by omega) (show n0 < 2 ^ 31 by omega)).mp (hn.symm.trans hn0)]; exact hi
        rw [mz _ (by omega), e1 _ (by omega) (by omega), c1 _ (by omega) (by omega), b1 _ (by omega) (by omega)]
        refine (a3 (by omega) (by omega) i hi0).trans ?_
        rw [f0 _ (by omega)]
        exact l0'' i hi0
    · refine ⟨?_, fun n hn5 hn i hi => ?_⟩
      · rw [mz _ (by omega), e1 _ (by omega) (by omega), c1 _ (by omega) (by omega), hn1]; exact b2
      · have hi0 : i < n1 := by rw [← (nI_eq (show n < 2 ^ 31 by omega) (show n1 < 2 ^ 31 by omega)).mp (hn.symm.trans hn1)]; exact hi
        rw [mz _ (by omega), e1 _ (by omega) (by omega), c1 _ (by omega) (by omega)]
        refine (b3 (by omega) (by omega) i hi0).trans ?_
        rw [a1 _ (by omega) (by omega), f0 _ (by omega)]
        exact l1'' i hi0
  · rw [mz _ (by omega), e1 _ (by omega) (by omega)]; exact c2
  · refine ⟨?_, (t4 i hi).2⟩
    rw [mz _ (by omega), e1 _ (by omega) (by omega)]
    refine (c3 (by omega) (by omega) i hi).trans ?_
    rw [b1 _ (by omega) (by omega), a1 _ (by omega) (by omega), f0 _ (by omega)]
    exact (t4 i hi).1
  · rw [mz _ (by omega)]; exact e2
  · rw [mz _ (by omega)]
    refine (e3 (by omega) (by omega) i hi).trans ?_
    rw [c1 _ (by omega) (by omega), b1 _ (by omega) (by omega), a1 _ (by omega) (by omega), f0 _ (by omega)]
    exact w4 i hi
set_option maxHeartbeats 1000000 in
theorem t_takesAll55 {d : Nat} {R : gR} {μ : gM} {D : Nat → Int32} (C : q_CL 31 11 D μ) (h : ∀ μ', (∀ o, ¬ ((55 ≤ o ∧ o ≤ 66 ∧ o ≠ 57) ∨ o = 20 ∨ o = 21 ∨ o = 24 ∨ o = 25) → μ' o = μ o) → q_CL 55 19 D μ' → R none μ') : gc_S (d + 2) 2 [.ref 55, .ref 31] μ R := by
  obtain ⟨ok, hy, hR, hz, hL, ⟨tt, t1, t2, t3, t4⟩, ⟨ww, w1, w2, w3, w4⟩⟩ := C
  obtain ⟨r12, r16, r20, r24, r28, r39, r41, r63, r65, r77, r80⟩ := q_rw12
  obtain ⟨n0, hn0, hn05⟩ := q_wfn ok.2.2.2.2.2.2 (show 0 < 2 by omega)
  obtain ⟨n1, hn1, hn15⟩ := q_wfn ok.2.2.2.2.2.2 (show 1 < 2 by omega)
  obtain ⟨l0, l0'⟩ := hL 0 (by omega)
  obtain ⟨l1, l1'⟩ := hL 1 (by omega)
  have l0'' := l0' n0 hn05 hn0
  have l1'' := l1' n1 hn15 hn1
  simp only [s2, u2_0, u2_1, u2_2, u2_5, u2_6, u2_9, u2_11, u2_14, u2_15, u2_18, u2_19, u2_20, u2_23, u2_26, u2_27, u2_30, u2_31, u2_32, u2_35, u2_36, u2_39, u2_40, u2_41, u2_44, u2_47, u2_48, u2_51, u2_52, u2_55, u2_58, u2_59, u2_62, u2_63, u2_66, u2_69, u2_70, u2_71, u2_74, u2_77, ly_kd, ly_al, ly_fv0, ly_fv1, ly_fv2, ly_fv3, ly_fv4, ly_fk, ly_ra, Option.toList, List.cons_append, List.nil_append, q_ski, q_skr, q_sku, if_true, if_false]
  rw [t_takes q_K55 q_K31]
  obtain ⟨R0, f0, f2, -⟩ := q_tks_R (k := 55) (j := 31) (by omega) hR
  have z0 : q_tks μ 55 31 31 14 = μ 31 14 := by rw [f0 31 (by omega)]
  generalize q_tks μ 55 31 = μ0 at R0 f0 f2 z0 ⊢
  simp only [u2_0, u2_1, u2_2, u2_5, u2_6, u2_9, u2_11, u2_14, u2_15, u2_18, u2_19, u2_20, u2_23, u2_26, u2_27, u2_30, u2_31, u2_32, u2_35, u2_36, u2_39, u2_40, u2_41, u2_44, u2_47, u2_48, u2_51, u2_52, u2_55, u2_58, u2_59, u2_62, u2_63, u2_66, u2_69, u2_70, u2_71, u2_74, u2_77, ly_kd, ly_al, ly_fv0, ly_fv1, ly_fv2, ly_fv3, ly_fv4, ly_fk, ly_ra, Option.toList, List.cons_append, List.nil_append, q_ski, q_skr, q_sku, if_true, if_false]
  rw [u2_10 (q := 23) rfl rfl]
  simp only [u2_0, u2_1, u2_2, u2_5, u2_6, u2_9, u2_11, u2_14, u2_15, u2_18, u2_20, u2_23, u2_26, u2_27, u2_30, u2_31, u2_32, u2_35, u2_36, u2_39, u2_40, u2_41, u2_44, u2_47, u2_48, u2_51, u2_52, u2_55, u2_58, u2_59, u2_62, u2_63, u2_66, u2_69, u2_70, u2_71, u2_74, u2_77, ly_kd, ly_al, ly_fv0, ly_fv1, ly_fv2, ly_fv3, ly_fv4, ly_fk, ly_ra, Option.toList, List.cons_append, List.nil_append, q_ski, q_skr, q_sku, if_true, if_false, q_tn, vp_in_nI (n := 0) (N := 2) (by omega) (by decide), show vp_in 0 2 from vp_in_nI (n := 0) (by omega) (by decide), true_and, Nat.mul_zero, Nat.add_zero, Nat.mul_one]
  rw [u2_19 (q := 23) rfl rfl]
  simp only [u2_0, u2_1, u2_2, u2_5, u2_6, u2_9, u2_11, u2_14, u2_15, u2_18, u2_20, u2_23, u2_26, u2_27, u2_30, u2_32, u2_35, u2_36, u2_39, u2_40, u2_41, u2_44, u2_47, u2_48, u2_51, u2_52, u2_55, u2_58, u2_59, u2_62, u2_63, u2_66, u2_69, u2_70, u2_71, u2_74, u2_77, ly_kd, ly_al, ly_fv0, ly_fv1, ly_fv2, ly_fv3, ly_fv4, ly_fk, ly_ra, Option.toList, List.cons_append, List.nil_append, q_ski, q_skr, q_sku, if_true, if_false, q_tn, show vp_in 0 2 from vp_in_nI (n := 0) (by omega) (by decide), true_and, Nat.mul_zero, Nat.add_zero, Nat.mul_one]
  rw [t_rowTakes (n := 50) (t := n0) r20 r12 (by omega) (by omega) (by rw [f0 12 (by omega)]; exact l0.trans hn0) hn05]
  obtain ⟨a1, a2, a3⟩ := @q_took μ0 20 12 n0
  generalize gc_cp (gc_up μ0 20 1 (nI n0)) (12 + 1) (20 + 1) 0 0 n0 = μ1 at a1 a2 a3 ⊢
  simp only [u2_0, u2_1, u2_2, u2_5, u2_6, u2_9, u2_11, u2_14, u2_15, u2_18, u2_20, u2_23, u2_26, u2_27, u2_30, u2_32, u2_35, u2_36, u2_39, u2_40, u2_41, u2_44, u2_47, u2_48, u2_51, u2_52, u2_55, u2_58, u2_59, u2_62, u2_63, u2_66, u2_69, u2_70, u2_71, u2_74, u2_77, ly_kd, ly_al, ly_fv0, ly_fv1, ly_fv2, ly_fv3, ly_fv4, ly_fk, ly_ra, Option.toList, List.cons_append, List.nil_append, q_ski, q_skr, q_sku, if_true, if_false]
  rw [u2_31 (q := 23) rfl rfl]
  simp only [u2_0, u2_1, u2_2, u2_5, u2_6, u2_9, u2_11, u2_14, u2_15, u2_18, u2_20, u2_23, u2_26, u2_27, u2_30, u2_32, u2_35, u2_36, u2_39, u2_41, u2_44, u2_47, u2_48, u2_51, u2_52, u2_55, u2_58, u2_59, u2_62, u2_63, u2_66, u2_69, u2_70, u2_71, u2_74, u2_77, ly_kd, ly_al, ly_fv0, ly_fv1, ly_fv2, ly_fv3, ly_fv4, ly_fk, ly_ra, Option.toList, List.cons_append, List.nil_append, q_ski, q_skr, q_sku, if_true, if_false, q_tn, show vp_in 1 2 from vp_in_nI (n := 1) (by omega) (by decide), true_and, Nat.mul_zero, Nat.add_zero, Nat.mul_one, Nat.reduceAdd]
  rw [u2_40 (q := 23) rfl rfl]
  simp only [u2_0, u2_1, u2_2, u2_5, u2_6, u2_9, u2_11, u2_14, u2_15, u2_18, u2_20, u2_23, u2_26, u2_27, u2_30, u2_32, u2_35, u2_36, u2_39, u2_41, u2_44, u2_47, u2_48, u2_51, u2_52, u2_55, u2_58, u2_59, u2_62, u2_63, u2_66, u2_69, u2_70, u2_71, u2_74, u2_77, ly_kd, ly_al, ly_fv0, ly_fv1, ly_fv2, ly_fv3, ly_fv4, ly_fk, ly_ra, Option.toList, List.cons_append, List.nil_append, q_ski, q_skr, q_sku, if_true, if_false, q_tn, show vp_in 1 2 from vp_in_nI (n := 1) (by omega) (by decide), true_and, Nat.mul_zero, Nat.add_zero, Nat.mul_one, Nat.reduceAdd]
  rw [t_rowTakes (n := 50) (t := n1) r24 r16 (by omega) (by omega) (by rw [a1 16 (by omega) (by omega), f0 16 (by omega)]; exact l1.trans hn1) hn15]
  obtain ⟨b1, b2, b3⟩ := @q_took μ1 24 16 n1
  generalize gc_cp (gc_up μ1 24 1 (nI n1)) (16 + 1) (24 + 1) 0 0 n1 = μ2 at b1 b2 b3 ⊢
  simp only [u2_0, u2_1, u2_2, u2_5, u2_6, u2_9, u2_11, u2_14, u2_15, u2_18, u2_20, u2_23, u2_26, u2_27, u2_30, u2_32, u2_35, u2_36, u2_39, u2_41, u2_44, u2_47, u2_48, u2_51, u2_52, u2_55, u2_58, u2_59, u2_62, u2_63, u2_66, u2_69, u2_70, u2_71, u2_74, u2_77, ly_kd, ly_al, ly_fv0, ly_fv1, ly_fv2, ly_fv3, ly_fv4, ly_fk, ly_ra, Option.toList, List.cons_append, List.nil_append, q_ski, q_skr, q_sku, if_true, if_false]
  rw [t_rowTakes (n := 50) (t := tt) r63 r39 (by omega) (by omega) (by rw [b1 39 (by omega) (by omega), a1 39 (by omega) (by omega), f0 39 (by omega)]; exact t3) t2]
  obtain ⟨c1, c2, c3⟩ := @q_took μ2 63 39 tt
  generalize gc_cp (gc_up μ2 63 1 (nI tt)) (39 + 1) (63 + 1) 0 0 tt = μ3 at c1 c2 c3 ⊢
  simp only [u2_0, u2_1, u2_2, u2_5, u2_6, u2_9, u2_11, u2_14, u2_15, u2_18, u2_20, u2_23, u2_26, u2_27, u2_30, u2_32, u2_35, u2_36, u2_39, u2_41, u2_44, u2_47, u2_48, u2_51, u2_52, u2_55, u2_58, u2_59, u2_62, u2_63, u2_66, u2_69, u2_70, u2_71, u2_74, u2_77, ly_kd, ly_al, ly_fv0, ly_fv1, ly_fv2, ly_fv3, ly_fv4, ly_fk, ly_ra, Option.toList, List.cons_append, List.nil_append, q_ski, q_skr, q_sku, if_true, if_false]
  rw [t_rowTakes (n := 20) (t := ww) r65 r41 (by omega) (by omega) (by rw [c1 41 (by omega) (by omega), b1 41 (by omega) (by omega), a1 41 (by omega) (by omega), f0 41 (by omega)]; exact w3) w2]
  obtain ⟨e1, e2, e3⟩ := @q_took μ3 65 41 ww
  generalize gc_cp (gc_up μ3 65 1 (nI ww)) (41 + 1) (65 + 1) 0 0 ww = μ4 at e1 e2 e3 ⊢
  simp only [u2_0, u2_1, u2_2, u2_5, u2_6, u2_9, u2_11, u2_14, u2_15, u2_18, u2_20, u2_23, u2_26, u2_27, u2_30, u2_32, u2_35, u2_36, u2_39, u2_41, u2_44, u2_47, u2_48, u2_51, u2_52, u2_55, u2_58, u2_59, u2_62, u2_63, u2_66, u2_69, u2_70, u2_71, u2_74, u2_77, ly_kd, ly_al, ly_fv0, ly_fv1, ly_fv2, ly_fv3, ly_fv4, ly_fk, ly_ra, Option.toList, List.cons_append, List.nil_append, q_ski, q_skr, q_sku, if_true, if_false]
  have m : ∀ o, o ≠ 20 → o ≠ 21 → o ≠ 24 → o ≠ 25 → o ≠ 63 → o ≠ 64 → o ≠ 65 → o ≠ 66 → μ4 o = μ0 o := fun o x1 x2 x3 x4 x5 x6 x7 x8 => by rw [e1 o x7 x8, c1 o x5 x6, b1 o x3 x4, a1 o x1 x2]
  have ez : μ4 31 14 = D 2 := by rw [m 31 (by omega) (by omega) (by omega) (by omega) (by omega) (by omega) (by omega) (by omega), z0]; exact hz
  rw [ez]
  have mz : ∀ o, o ≠ 55 → gc_up μ4 55 14 (D 2) o = μ4 o := fun o ho => gc_up_ne ho
  refine h _ (fun o ho => ?_) ⟨ok, hy, q_R_z (q_R_mem R0 (fun o a b _ => m o (by omega) (by omega) (by omega) (by omega) (by omega) (by omega) (by omega) (by omega))), q_up_same, fun u hu => ?_, ⟨tt, t1, t2, ?_, fun i hi => ?_⟩, ⟨ww, w1, w2, ?_, fun i hi => ?_⟩⟩
  · by_cases e2 : o = 57
    · subst e2
      rw [mz _ (by omega), m _ (by omega) (by omega) (by omega) (by omega) (by omega) (by omega) (by omega) (by omega)]
      exact f2
    · rw [mz o (by omega), m o (by omega) (by omega) (by omega) (by omega) (by omega) (by omega) (by omega) (by omega), f0 o (by omega)]
  · rcases (show u = 0 ∨ u = 1 by omega) with rfl | rfl
    · refine ⟨?_, fun n hn5 hn i hi => ?_⟩
      · rw [mz _ (by omega), e1 _ (by omega) (by omega), c1 _ (by omega) (by omega), b1 _ (by omega) (by omega), hn0]; exact a2
      · have hi0 : i < n0 := by rw [← (nI_eq (show n < 2 ^ 31 by omega) (show n0 < 2 ^ 31 by omega)).mp (hn.symm.trans hn0)]; exact hi
        rw [mz _ (by omega), e1 _ (by omega) (by omega), c1 _ (by omega) (by omega), b1 _ (by omega) (by omega)]
        refine (a3 (by omega) (by omega) i hi0).trans ?_
        rw [f0 _ (by omega)]
        exact l0'' i hi0
    · refine ⟨?_, fun n hn5 hn i hi => ?_⟩
      · rw [mz _ (by omega), e1 _ (by omega) (by omega), c1 _ (by omega) (by omega), hn1]; exact b2
      · have hi0 : i < n1 := by rw [← (nI_eq (show n < 2 ^ 31 by omega) (show n1 < 2 ^ 31 by omega)).mp (hn.symm.trans hn1)]; exact hi
        rw [mz _ (by omega), e1 _ (by omega) (by omega), c1 _ (by omega) (by omega)]
        refine (b3 (by omega) (by omega) i hi0).trans ?_
        rw [a1 _ (by omega) (by omega), f0 _ (by omega)]
        exact l1'' i hi0
  · rw [mz _ (by omega), e1 _ (by omega) (by omega)]; exact c2
  · refine ⟨?_, (t4 i hi).2⟩
    rw [mz _ (by omega), e1 _ (by omega) (by omega)]
    refine (c3 (by omega) (by omega) i hi).trans ?_
    rw [b1 _ (by omega) (by omega), a1 _ (by omega) (by omega), f0 _ (by omega)]
    exact (t4 i hi).1
  · rw [mz _ (by omega)]; exact e2
  · rw [mz _ (by omega)]
    refine (e3 (by omega) (by omega) i hi).trans ?_
    rw [c1 _ (by omega) (by omega), b1 _ (by omega) (by omega), a1 _ (by omega) (by omega), f0 _ (by omega)]
    exact w4 i hi
