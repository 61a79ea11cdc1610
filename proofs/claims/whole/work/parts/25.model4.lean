theorem q_hdf (v : Int32) : (if v < 0 then 0 else if 99 < v then 99 else v) = q_hd v := rfl
theorem q_ev_ind {nm code s0 s1 : Nat → Int32} : ∀ n, (∀ m, m < n → q_tk (code m) (q_dp code m)) → ∀ j, j < q_dp code n → (q_ev nm code s0 n).2 j = (q_ev nm code s1 n).2 j
  | 0, _, j, hj => absurd hj (Nat.not_lt_zero j)
  | n + 1, h, j, hj => by
    have ih := q_ev_ind (nm := nm) (s0 := s0) (s1 := s1) n (fun m hm => h m (by omega))
    have h0 := q_ev_dp (nm := nm) (s0 := s0) n (fun m hm => h m (by omega))
    have h1 := q_ev_dp (nm := nm) (s0 := s1) n (fun m hm => h m (by omega))
    have hb := q_tk_big (h n (by omega))
    show (q_st nm (code n) (q_ev nm code s0 n)).2 j = (q_st nm (code n) (q_ev nm code s1 n)).2 j
    generalize q_ev nm code s0 n = E0 at *
    generalize q_ev nm code s1 n = E1 at *
    obtain ⟨t0, P0⟩ := E0
    obtain ⟨t1, P1⟩ := E1
    dsimp only at h0 h1 ih
    unfold q_dp at hj
    generalize q_dp code n = t at *
    subst h0
    subst h1
    unfold q_st
    rcases hb with ⟨c1, -⟩ | ⟨c1, c2, c3⟩ | ⟨c1, c2, c3⟩
    · rw [if_pos c1] at hj
      rw [if_pos c1, if_pos c1]
      dsimp only
      unfold upd
      by_cases e : j = t1
      · rw [if_pos e, if_pos e]
      · rw [if_neg e, if_neg e]; exact ih j (by omega)
    · rw [if_neg c1, if_pos c2] at hj
      rw [if_neg c1, if_pos c2, if_neg c1, if_pos c2]
      dsimp only
      unfold upd
      simp only [ih (t1 - 1) (by omega), ih j hj]
    · rw [if_neg c1, if_neg c2] at hj
      rw [if_neg c1, if_neg c2, if_neg c1, if_neg c2]
      dsimp only
      unfold upd
      simp only [ih (t1 - 2) (by omega), ih (t1 - 1) (by omega), ih j (by omega)]
theorem q_n3v : vp_in (0 : Int32) 3 ∧ vp_in (1 : Int32) 3 ∧ vp_in (2 : Int32) 3 := ⟨q_vp (by decide), q_vp (by decide), q_vp (by decide)⟩
theorem q_ev_nm {nm nm' code s0 : Nat → Int32} : ∀ n, (∀ m, m < n → q_tk (code m) (q_dp code m)) → (∀ k, k < 3 → nm k = nm' k) → q_ev nm code s0 n = q_ev nm' code s0 n
  | 0, _, _ => rfl
  | n + 1, h, hn => by
    have ih := q_ev_nm (s0 := s0) n (fun m hm => h m (by omega)) hn
    show q_st nm (code n) (q_ev nm code s0 n) = q_st nm' (code n) (q_ev nm' code s0 n)
    rw [ih]
    unfold q_st
    rcases q_tk_big (h n (by omega)) with ⟨c1, c2⟩ | ⟨c1, c2, c3⟩ | ⟨c1, c2, c3⟩
    · rw [if_pos c1, if_pos c1]
      rcases c2 with c2 | ⟨c2, c3⟩
      · rw [if_pos c2, if_pos c2]
      · rw [if_neg c2, if_neg c2, hn _ (Nat.not_le.mp fun z => c3 (Or.inr z))]
    · rw [if_neg c1, if_neg c1, if_pos c2]
    · rw [if_neg c1, if_neg c1, if_neg c2]
set_option maxHeartbeats 1000000 in
theorem m_textGives {d : Nat} {R : gR} {μ : gM} {u : Nat} {U a b c : Int32} (hu : u < 2) (hU : U = nI u) (hwf : q_wfD (μ 84)) (h : ∀ μ', (∀ o, o ≠ 88 → o ≠ 90 → μ' o = μ o) → R (some (.int (q_tg (μ 84) u a b c))) μ') : gc_S (d + 3) 170 [.ref 83, .int U, .int a, .int b, .int c] μ R := by
  obtain ⟨n, hn, hwfn⟩ := hwf u hu
  have h50 := hwfn.1
  have e75 : (75 : Int32) + U = nI (75 + u) := by rw [hU]; exact nI_add 75 u
  have e97 : (97 : Int32) + 50 * U = nI (97 + 50 * u) := by rw [hU, show (50 : Int32) = nI 50 from rfl, pk_mul]; exact nI_add 97 _
  have v75 : vp_in (nI (75 + u)) 247 := vp_in_nI (by omega) (by decide)
  have c75 : (nI (75 + u)).toNatClampNeg = 75 + u := nI_clamp (by omega)
  have hU0 : (U = 0) ↔ (u = 0) := by
    rw [hU]
    rcases (show u = 0 ∨ u = 1 by omega) with rfl | rfl <;> decide
  rcases Nat.eq_zero_or_pos n with rfl | hpos
  · have hz : q_tg (μ 84) u a b c = q_hd (if u = 0 then a else 3) := by
      unfold q_tg; rw [hn, if_neg (by decide)]
    have h' := h μ (fun _ _ _ => rfl)
    rw [hz] at h'
    by_cases hu0 : u = 0
    · rw [if_pos hu0] at h'
      have hUt : (U = 0) = True := eq_true (hU0.mpr hu0)
      simp only [s170, u170_0, u170_1, u170_4, u170_5, u170_8, u170_9, u170_11, u170_12, u170_15, u170_17, u170_18, u170_19, u170_20, u170_23, u170_24, u170_27, u170_28, u170_29, u170_30, u170_31, u170_34, u170_35, u170_36, u170_37, u170_38, u170_41, u170_42, u170_44, u170_45, u170_46, u170_48, u170_50, u170_51, u170_52, u170_53, u170_54, u170_57, u170_59, u170_60, u170_61, u170_62, u170_65, u170_67, u170_69, u170_70, u170_72, u170_75, ly_kd, ly_al, ly_fv0, ly_fv1, ly_fv2, ly_fv3, ly_fv4, ly_fk, ly_ra, Option.toList, List.cons_append, List.nil_append, q_ski, q_skr, q_sku, if_true, if_false, m_held, e75, v75, c75, hn, true_and, hUt, q_hdf, show nI 0 ≤ 0 from by decide]
      exact h'
    · rw [if_neg hu0] at h'
      have hUt : (U = 0) = False := eq_false (fun z => hu0 (hU0.mp z))
      simp only [s170, u170_0, u170_1, u170_4, u170_5, u170_8, u170_9, u170_11, u170_12, u170_15, u170_17, u170_18, u170_19, u170_20, u170_23, u170_24, u170_27, u170_28, u170_29, u170_30, u170_31, u170_34, u170_35, u170_36, u170_37, u170_38, u170_41, u170_42, u170_44, u170_45, u170_46, u170_48, u170_50, u170_51, u170_52, u170_53, u170_54, u170_57, u170_59, u170_60, u170_61, u170_62, u170_65, u170_67, u170_69, u170_70, u170_72, u170_75, ly_kd, ly_al, ly_fv0, ly_fv1, ly_fv2, ly_fv3, ly_fv4, ly_fk, ly_ra, Option.toList, List.cons_append, List.nil_append, q_ski, q_skr, q_sku, if_true, if_false, m_held, e75, v75, c75, hn, true_and, hUt, q_hdf, show nI 0 ≤ 0 from by decide]
      exact h'
  · have hnp : ¬ nI n ≤ 0 := nI_nle hpos (by omega)
    have key : ∀ nm, (∀ k, k < 3 → nm k = q_n3 a b c k) → ∀ s0, q_hd ((q_ev nm (fun j => μ 84 (97 + 50 * u + j)) s0 n).2 0) = q_tg (μ 84) u a b c := by
      intro nm hnm s0
      unfold q_tg
      rw [hn, if_pos (Int32.not_le.mp hnp), nI_clamp (by omega), show (fun j => μ 84 (97 + 50 * u + j)) = q_code (μ 84) u from rfl, q_ev_nm n hwfn.2.1 hnm]
      congr 1
      exact q_ev_ind n hwfn.2.1 0 (by rw [hwfn.2.2 hpos]; exact Nat.one_pos)
    have hR' : ∀ μ1 : gM, (∀ o, o ≠ 88 → μ1 o = μ o) → (∀ k, k < 3 → μ1 88 k = q_n3 a b c k) → R (some (.int (q_hd ((q_ev (μ1 88) (fun j => μ 84 (97 + 50 * u + j)) (μ1 90) n).2 0)))) (gc_ob μ1 90 (q_ev (μ1 88) (fun j => μ 84 (97 + 50 * u + j)) (μ1 90) n).2) := by
      intro μ1 h1 h2
      rw [key _ h2]
      exact h _ (fun o ho1 ho2 => by rw [q_ob_n ho2, h1 o ho1])
    have hwk : ∀ μ1 : gM, (∀ o, o ≠ 88 → μ1 o = μ o) → ∀ {R' : gR}, gc_S (d + 2) 167 [.ref 83, .int (nI (97 + 50 * u)), .int (nI n)] μ1 R' ↔ R' (some (.int ((q_ev (μ1 88) (fun j => μ 84 (97 + 50 * u + j)) (μ1 90) n).2 0))) (gc_ob μ1 90 (q_ev (μ1 88) (fun j => μ 84 (97 + 50 * u + j)) (μ1 90) n).2) := by
      intro μ1 h1 R'
      have e := h1 84 (by decide)
      rw [m_worked (by omega) (by rw [e]; exact hwfn), e]
    by_cases hu0 : u = 0
    · have hUt : (U = 0) = True := eq_true (hU0.mpr hu0)
      simp only [s170, u170_0, u170_1, u170_4, u170_5, u170_8, u170_9, u170_11, u170_12, u170_15, u170_17, u170_18, u170_19, u170_20, u170_23, u170_24, u170_27, u170_28, u170_29, u170_30, u170_31, u170_34, u170_35, u170_36, u170_37, u170_38, u170_41, u170_42, u170_44, u170_45, u170_46, u170_48, u170_50, u170_51, u170_52, u170_53, u170_54, u170_57, u170_59, u170_60, u170_61, u170_62, u170_65, u170_67, u170_69, u170_70, u170_72, u170_75, ly_kd, ly_al, ly_fv0, ly_fv1, ly_fv2, ly_fv3, ly_fv4, ly_fk, ly_ra, Option.toList, List.cons_append, List.nil_append, q_ski, q_skr, q_sku, if_true, if_false, m_held, e75, e97, v75, c75, hn, true_and, hUt, q_hdf, hnp, q_n3v, q_tn, q_up_o (show (84 : Nat) ≠ 88 by decide)]
      rw [hwk _ (fun o ho => by rw [gc_up_ne ho, gc_up_ne ho, gc_up_ne ho])]
      simp only [u170_0, u170_1, u170_4, u170_5, u170_8, u170_9, u170_11, u170_12, u170_15, u170_17, u170_18, u170_19, u170_20, u170_23, u170_24, u170_27, u170_28, u170_29, u170_30, u170_31, u170_34, u170_35, u170_36, u170_37, u170_38, u170_41, u170_42, u170_44, u170_45, u170_46, u170_48, u170_50, u170_51, u170_52, u170_53, u170_54, u170_57, u170_59, u170_60, u170_61, u170_62, u170_65, u170_67, u170_69, u170_70, u170_72, u170_75, ly_kd, ly_al, ly_fv0, ly_fv1, ly_fv2, ly_fv3, ly_fv4, ly_fk, ly_ra, Option.toList, List.cons_append, List.nil_append, q_ski, q_skr, q_sku, if_true, if_false, m_held, q_hdf]
      exact hR' _ (fun o ho => by rw [gc_up_ne ho, gc_up_ne ho, gc_up_ne ho]) (fun k hk => by
        rcases (show k = 0 ∨ k = 1 ∨ k = 2 by omega) with rfl | rfl | rfl <;> rfl)
    · have hUt : (U = 0) = False := eq_false (fun z => hu0 (hU0.mp z))
      simp only [s170, u170_0, u170_1, u170_4, u170_5, u170_8, u170_9, u170_11, u170_12, u170_15, u170_17, u170_18, u170_19, u170_20, u170_23, u170_24, u170_27, u170_28, u170_29, u170_30, u170_31, u170_34, u170_35, u170_36, u170_37, u170_38, u170_41, u170_42, u170_44, u170_45, u170_46, u170_48, u170_50, u170_51, u170_52, u170_53, u170_54, u170_57, u170_59, u170_60, u170_61, u170_62, u170_65, u170_67, u170_69, u170_70, u170_72, u170_75, ly_kd, ly_al, ly_fv0, ly_fv1, ly_fv2, ly_fv3, ly_fv4, ly_fk, ly_ra, Option.toList, List.cons_append, List.nil_append, q_ski, q_skr, q_sku, if_true, if_false, m_held, e75, e97, v75, c75, hn, true_and, hUt, q_hdf, hnp, q_n3v, q_tn, q_up_o (show (84 : Nat) ≠ 88 by decide)]
      rw [hwk _ (fun o ho => by rw [gc_up_ne ho, gc_up_ne ho, gc_up_ne ho])]
      simp only [u170_0, u170_1, u170_4, u170_5, u170_8, u170_9, u170_11, u170_12, u170_15, u170_17, u170_18, u170_19, u170_20, u170_23, u170_24, u170_27, u170_28, u170_29, u170_30, u170_31, u170_34, u170_35, u170_36, u170_37, u170_38, u170_41, u170_42, u170_44, u170_45, u170_46, u170_48, u170_50, u170_51, u170_52, u170_53, u170_54, u170_57, u170_59, u170_60, u170_61, u170_62, u170_65, u170_67, u170_69, u170_70, u170_72, u170_75, ly_kd, ly_al, ly_fv0, ly_fv1, ly_fv2, ly_fv3, ly_fv4, ly_fk, ly_ra, Option.toList, List.cons_append, List.nil_append, q_ski, q_skr, q_sku, if_true, if_false, m_held, q_hdf]
      exact hR' _ (fun o ho => by rw [gc_up_ne ho, gc_up_ne ho, gc_up_ne ho]) (fun k hk => by
        rcases (show k = 0 ∨ k = 1 ∨ k = 2 by omega) with rfl | rfl | rfl <;> rfl)
theorem q_y8e {x : Int32} : (¬ (8 : Int32) = 0) ↔ True := by decide
theorem m_wept {d : Nat} {R : gR} {μ : gM} {i : Nat} (hi : i < 8) (hwf : q_wfD (μ 84)) (h : ∀ μ', (∀ o, o ≠ 88 → o ≠ 90 → μ' o = μ o) → R (some (.int (q_wept (μ 84) i))) μ') : gc_S (d + 4) 175 [.ref 83, .int (nI i)] μ R := by
  simp only [s175, u175_0, u175_1, u175_2, u175_3, u175_4, u175_7, u175_8, u175_9, u175_10, u175_13, u175_14, u175_17, u175_18, u175_19, u175_21, u175_22, u175_25, ly_kd, ly_al, ly_fv0, ly_fv1, ly_fv2, ly_fv3, ly_fv4, ly_fk, ly_ra, Option.toList, List.cons_append, List.nil_append, q_ski, q_skr, q_sku, if_true, if_false, m_weeps hi, m_of, q_wi hi, true_and, q_v247, q_tn, show (¬ (8 : Int32) = 0) ↔ True from by decide]
  refine m_textGives (u := 0) (by decide) rfl hwf (fun μ' hμ => ?_)
  simp only [u175_0, u175_1, u175_2, u175_3, u175_4, u175_7, u175_8, u175_9, u175_10, u175_13, u175_14, u175_17, u175_18, u175_19, u175_21, u175_22, u175_25, ly_kd, ly_al, ly_fv0, ly_fv1, ly_fv2, ly_fv3, ly_fv4, ly_fk, ly_ra, Option.toList, List.cons_append, List.nil_append, q_ski, q_skr, q_sku, if_true, if_false]
  exact h μ' hμ
theorem m_eases {d : Nat} {R : gR} {μ : gM} {i : Nat} {w : Int32} (hi : i < 8) : gc_S (d + 2) 176 [.ref 83, .int (nI i), .int w] μ R ↔ R (some (.int (q_es (μ 84 (43 + 4 * i)) (μ 84 (44 + 4 * i)) w))) μ := by
  simp only [s176, u176_0, u176_1, u176_2, u176_3, u176_6, u176_40, u176_41, u176_42, u176_43, u176_44, u176_45, u176_46, u176_47, u176_48, u176_49, u176_50, u176_51, u176_52, u176_53, u176_54, u176_57, u176_58, u176_59, u176_60, u176_61, u176_62, ly_kd, ly_al, ly_fv0, ly_fv1, ly_fv2, ly_fv3, ly_fv4, ly_fk, ly_ra, Option.toList, List.cons_append, List.nil_append, q_ski, q_skr, q_sku, if_true, if_false, m_of, q_wi hi, true_and, show (¬ (2 : Int32) = 0) ↔ True from by decide]
  unfold q_es
  generalize μ 84 (43 + 4 * i) = kd
  by_cases h2 : kd = 2
  · subst h2; simp
  by_cases h4 : kd = 4
  · subst h4; simp
  by_cases h5 : kd = 5
  · subst h5; simp
  by_cases h6 : kd = 6
  · subst h6; simp
  by_cases h3 : kd = 3
  · subst h3; simp
  simp [h2, h3, h4, h5, h6]
theorem m_grieves {d : Nat} {R : gR} {μ : gM} {i : Nat} (hi : i < 8) : gc_S (d + 2) 177 [.ref 83, .int (nI i)] μ R ↔ R (some (.int (q_gr (μ 84 (43 + 4 * i)) (μ 84 (44 + 4 * i)) (μ 84 1)))) μ := by
  simp only [s177, u177_0, u177_1, u177_2, u177_3, u177_6, u177_44, u177_45, u177_46, u177_47, u177_48, u177_49, u177_50, u177_51, u177_52, u177_55, u177_56, u177_57, u177_58, u177_59, u177_60, u177_63, u177_64, u177_65, u177_66, u177_67, u177_70, u177_71, u177_74, u177_75, u177_76, u177_77, ly_kd, ly_al, ly_fv0, ly_fv1, ly_fv2, ly_fv3, ly_fv4, ly_fk, ly_ra, Option.toList, List.cons_append, List.nil_append, q_ski, q_skr, q_sku, if_true, if_false, m_of, q_wi hi, true_and, q_v247, q_tn, show (¬ (2 : Int32) = 0) ↔ True from by decide, show (¬ (3 : Int32) = 0) ↔ True from by decide]
  unfold q_gr
  generalize μ 84 (43 + 4 * i) = kd
  by_cases h1 : kd = 1
  · subst h1; simp
  by_cases h2 : kd = 2
  · subst h2; simp
  by_cases h3 : kd = 3
  · subst h3; simp
  by_cases h4 : kd = 4
  · subst h4; simp
  by_cases h5 : kd = 5
  · subst h5
    by_cases hy : μ 84 1 - μ 84 1 / 2 * 2 = 0 <;> simp [hy]
  by_cases h6 : kd = 6
  · subst h6; simp
  simp [h1, h2, h3, h4, h5, h6]
