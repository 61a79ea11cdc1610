/-! the game: the class -/
theorem q_msk : ∀ c, c < 16 → (1 : Int32) <<< (nI c &&& 31) - 1 = q_set (fun j => decide (j < c)) 16 := by decide +kernel
theorem q_ct_cut {P : Nat → Bool} {c : Nat} : ∀ m, q_ct (fun j => P j && decide (j < c)) (c + m) = q_ct P c
  | 0 => q_ct_cong (fun j hj => by rw [decide_eq_true (show j < c from hj), Bool.and_true])
  | m + 1 => by
    show q_ct (fun j => P j && decide (j < c)) (c + m) + (if (P (c + m) && decide (c + m < c)) = true then 1 else 0) = _
    rw [q_ct_cut m, decide_eq_false (by omega), Bool.and_false]; rfl
theorem t_rank {d : Nat} {R : gR} {μ : gM} {P : Nat → Bool} {c : Nat} (hc : c < 16) : gc_S (d + 2) 115 [.int (nI c), .int (q_set P 16)] μ R ↔ R (some (.int (nI (q_ct P c)))) μ := by
  have e := q_ct_cut (P := P) (c := c) (16 - c)
  rw [show c + (16 - c) = 16 by omega] at e
  simp only [s115, u115_0, u115_1, u115_2, u115_3, u115_4, u115_5, u115_6, u115_7, u115_10, Option.toList, List.cons_append, List.nil_append, q_ski, q_skr, q_sku, if_true, if_false, q_msk c hc, q_set_and, t_bitCount, e]
theorem q_isb {P : Nat → Bool} {c : Nat} (hc : c < 16) : (q_set P 16 >>> (nI c &&& 31)) &&& 1 = 1 ↔ P c = true := by
  rw [q_bit1o (by omega), q_set_bt 16 (by omega) c (by omega), decide_eq_true hc, Bool.true_and]
theorem q_isn {v c : Nat} (hc : c < 32) : (nI v >>> (nI c &&& 31)) &&& 1 = 1 ↔ v.testBit c = true := by
  rw [q_bit1o hc, b_nI hc]
theorem q_two : ∀ a, a < 16 → q_ct (fun j => decide (a < j) && q_adj a j) 16 ≤ 2 := by decide +kernel
set_option maxHeartbeats 1000000 in
theorem t_listDry {d : Nat} {R : gR} {μ : gM} {P : Nat → Bool} (h10 : q_ct P 16 ≤ 10) (h : ∀ μ' t, (∀ o, o ≠ 80 → o ≠ 81 → μ' o = μ o) → t ≤ 48 → q_Ms μ' t (q_mv P) → R none μ') : gc_S (d + 3) 116 [.ref 0, .int (q_set P 16)] μ R := by
  simp only [s116, u116_0, u116_1, u116_4, u116_5, u116_8, u116_9, u116_11, u116_13, u116_16, u116_17, u116_18, u116_19, u116_20, u116_21, u116_22, u116_25, u116_26, u116_27, u116_28, u116_31, u116_32, u116_33, u116_34, u116_37, u116_38, u116_41, u116_42, u116_43, u116_46, u116_47, u116_49, u116_50, u116_51, u116_52, u116_56, u116_58, u116_61, u116_63, u116_65, u116_66, u116_67, u116_68, u116_69, u116_72, u116_73, u116_76, u116_77, u116_78, u116_80, u116_81, u116_84, u116_85, u116_86, u116_89, u116_92, u116_95, u116_98, u116_101, ly_kd, ly_al, ly_fv0, ly_fv1, ly_fv2, ly_fv3, ly_fv4, ly_fk, ly_ra, Option.toList, List.cons_append, List.nil_append, q_ski, q_skr, q_sku, if_true, if_false]
  have main : ∀ m a, a + m = 16 → ∀ μ0 t, (∀ o, o ≠ 80 → o ≠ 81 → μ0 o = μ o) → t ≤ 3 * a → q_Ms μ0 t (q_mvC P a a) → ∀ l3 l4 l5, gc_sk l3 = true → gc_sk l4 = true → gc_sk l5 = true → gc_W (gc_S (d+2)) cX11_listDryings 11 2 R 10 [.ref 0, .int (q_set P 16), .int (nI a), l3, l4, l5] [] μ0 := by
    intro m
    induction m with
    | zero =>
      intro a ha μ0 t f0 ht M l3 l4 l5 h3 h4 h5
      obtain rfl : a = 16 := ha
      refine (u116_10).mpr ?_
      simp only [u116_0, u116_1, u116_4, u116_5, u116_8, u116_9, u116_11, u116_13, u116_16, u116_17, u116_18, u116_19, u116_20, u116_21, u116_22, u116_25, u116_26, u116_27, u116_28, u116_31, u116_32, u116_33, u116_34, u116_37, u116_38, u116_41, u116_42, u116_43, u116_46, u116_47, u116_49, u116_50, u116_51, u116_52, u116_56, u116_58, u116_61, u116_63, u116_65, u116_66, u116_67, u116_68, u116_69, u116_72, u116_73, u116_76, u116_77, u116_78, u116_80, u116_81, u116_84, u116_85, u116_86, u116_89, u116_92, u116_95, u116_98, u116_101, show (16 : Int32) ≤ nI 16 by decide, if_true]
      exact h μ0 t f0 (by omega) (q_Ms_no M (fun x => q_mvC_end.symm))
    | succ m ih =>
      intro a ha μ0 t f0 ht M l3 l4 l5 h3 h4 h5
      have a16 : a < 16 := by omega
      refine (u116_10).mpr ?_
      by_cases hP : P a = true
      · have pw := q_pw_lt h10 a16 hP
        have M1 := q_Ms_y M (w := 2 ^ q_ct P a) (fun x => q_mvC_y (x := x) a16 hP)
        simp only [u116_0, u116_1, u116_4, u116_5, u116_8, u116_9, u116_11, u116_13, u116_16, u116_17, u116_18, u116_19, u116_20, u116_21, u116_22, u116_25, u116_26, u116_27, u116_28, u116_31, u116_32, u116_33, u116_34, u116_37, u116_38, u116_41, u116_42, u116_43, u116_46, u116_47, u116_49, u116_50, u116_51, u116_52, u116_56, u116_58, u116_61, u116_63, u116_65, u116_66, u116_67, u116_68, u116_69, u116_72, u116_73, u116_76, u116_77, u116_78, u116_80, u116_81, u116_84, u116_85, u116_86, u116_89, u116_92, u116_95, u116_98, u116_101, q_nle a16 (by decide) (show (16 : Int32) = nI 16 from rfl), if_false, q_isb a16, hP, t_rank a16, h3, h4, h5, q_pw (q_ct P a) (by omega), t_add q_rw12.2.2.2.2.2.2.2.2.2.2 (by decide) M.1 (show t < 48 by omega), t_beside a16, q_set_and, ly_kd, ly_al, ly_fv0, ly_fv1, ly_fv2, ly_fv3, ly_fv4, ly_fk, ly_ra, Option.toList, List.cons_append, List.nil_append, q_ski, q_skr, q_sku, if_true, if_false, nI_1]
        have two := q_two a a16
        have inner : ∀ m b, b + m = 16 → a < b → ∀ μ1 t1, (∀ o, o ≠ 80 → o ≠ 81 → μ1 o = μ o) → t1 ≤ 3 * a + 1 + q_ct (fun j => decide (a < j) && q_adj a j) b → q_Ms μ1 t1 (q_mvC P a b) → gc_W (gc_S (d+2)) cX11_listDryings 11 2 R 54 [.ref 0, .int (q_set P 16), .int (nI a), .int (nI (2 ^ q_ct P a)), .int (q_set (fun c => P c && q_adj a c) 16), .int (nI b)] [] μ1 := by
          intro m
          induction m with
          | zero =>
            intro b hb hab μ1 t1 f1 ht1 M1
            obtain rfl : b = 16 := hb
            refine (u116_54).mpr ?_
            simp only [u116_0, u116_1, u116_4, u116_5, u116_8, u116_9, u116_11, u116_13, u116_16, u116_17, u116_18, u116_19, u116_20, u116_21, u116_22, u116_25, u116_26, u116_27, u116_28, u116_31, u116_32, u116_33, u116_34, u116_37, u116_38, u116_41, u116_42, u116_43, u116_46, u116_47, u116_49, u116_50, u116_51, u116_52, u116_56, u116_58, u116_61, u116_63, u116_65, u116_66, u116_67, u116_68, u116_69, u116_72, u116_73, u116_76, u116_77, u116_78, u116_80, u116_81, u116_84, u116_85, u116_86, u116_89, u116_92, u116_95, u116_98, u116_101, show (16 : Int32) ≤ nI 16 by decide, if_true, nI_1]
            exact ih (a + 1) (by omega) μ1 t1 f1 (by omega) (q_Ms_no M1 (fun x => q_mvC_nx.symm)) _ _ _ q_ski q_ski q_ski
          | succ m ih2 =>
            intro b hb hab μ1 t1 f1 ht1 M1
            have b16 : b < 16 := by omega
            have up : q_ct (fun j => decide (a < j) && q_adj a j) (b + 1) = q_ct (fun j => decide (a < j) && q_adj a j) b + (if (decide (a < b) && q_adj a b) = true then 1 else 0) := rfl
            refine (u116_54).mpr ?_
            by_cases g : (P b && q_adj a b) = true
            · have g' := g
              rw [Bool.and_eq_true] at g'
              have le2 := q_ct_m (P := fun j => decide (a < j) && q_adj a j) (a := b + 1) (16 - (b + 1))
              rw [show b + 1 + (16 - (b + 1)) = 16 by omega] at le2
              rw [if_pos (by rw [decide_eq_true hab, g'.2]; rfl)] at up
              have pb := q_pw_lt h10 b16 g'.1
              simp only [u116_0, u116_1, u116_4, u116_5, u116_8, u116_9, u116_11, u116_13, u116_16, u116_17, u116_18, u116_19, u116_20, u116_21, u116_22, u116_25, u116_26, u116_27, u116_28, u116_31, u116_32, u116_33, u116_34, u116_37, u116_38, u116_41, u116_42, u116_43, u116_46, u116_47, u116_49, u116_50, u116_51, u116_52, u116_56, u116_58, u116_61, u116_63, u116_65, u116_66, u116_67, u116_68, u116_69, u116_72, u116_73, u116_76, u116_77, u116_78, u116_80, u116_81, u116_84, u116_85, u116_86, u116_89, u116_92, u116_95, u116_98, u116_101, q_nle b16 (by decide) (show (16 : Int32) = nI 16 from rfl), if_false, q_isb b16, g, t_rank b16, q_pw (q_ct P b) (by omega), q_nor, t_add q_rw12.2.2.2.2.2.2.2.2.2.2 (by decide) M1.1 (show t1 < 48 by omega), ly_kd, ly_al, ly_fv0, ly_fv1, ly_fv2, ly_fv3, ly_fv4, ly_fk, ly_ra, Option.toList, List.cons_append, List.nil_append, q_ski, q_skr, q_sku, if_true, if_false, nI_1]
              refine ih2 (b + 1) (by omega) (by omega) _ (t1 + 1) (fun o x y => by rw [gc_up_ne x, gc_up_ne y]; exact f1 o x y) (by omega) (q_Ms_y M1 (fun x => q_mvC_iy hab b16 hP g))
            · simp only [u116_0, u116_1, u116_4, u116_5, u116_8, u116_9, u116_11, u116_13, u116_16, u116_17, u116_18, u116_19, u116_20, u116_21, u116_22, u116_25, u116_26, u116_27, u116_28, u116_31, u116_32, u116_33, u116_34, u116_37, u116_38, u116_41, u116_42, u116_43, u116_46, u116_47, u116_49, u116_50, u116_51, u116_52, u116_56, u116_58, u116_61, u116_63, u116_65, u116_66, u116_67, u116_68, u116_69, u116_72, u116_73, u116_76, u116_77, u116_78, u116_80, u116_81, u116_84, u116_85, u116_86, u116_89, u116_92, u116_95, u116_98, u116_101, q_nle b16 (by decide) (show (16 : Int32) = nI 16 from rfl), if_false, q_isb b16, eq_false g, ly_kd, ly_al, ly_fv0, ly_fv1, ly_fv2, ly_fv3, ly_fv4, ly_fk, ly_ra, Option.toList, List.cons_append, List.nil_append, q_ski, q_skr, q_sku, if_true, if_false, nI_1]
              exact ih2 (b + 1) (by omega) (by omega) μ1 t1 f1 (by omega) (q_Ms_no M1 (fun x => q_mvC_in hab g))
        refine inner (16 - (a + 1)) (a + 1) (by omega) (by omega) _ (t + 1) (fun o x y => by rw [gc_up_ne x, gc_up_ne y]; exact f0 o x y) (by omega) M1
      · simp only [u116_0, u116_1, u116_4, u116_5, u116_8, u116_9, u116_11, u116_13, u116_16, u116_17, u116_18, u116_19, u116_20, u116_21, u116_22, u116_25, u116_26, u116_27, u116_28, u116_31, u116_32, u116_33, u116_34, u116_37, u116_38, u116_41, u116_42, u116_43, u116_46, u116_47, u116_49, u116_50, u116_51, u116_52, u116_56, u116_58, u116_61, u116_63, u116_65, u116_66, u116_67, u116_68, u116_69, u116_72, u116_73, u116_76, u116_77, u116_78, u116_80, u116_81, u116_84, u116_85, u116_86, u116_89, u116_92, u116_95, u116_98, u116_101, q_nle a16 (by decide) (show (16 : Int32) = nI 16 from rfl), if_false, q_isb a16, eq_false hP, Option.toList, List.cons_append, List.nil_append, q_ski, q_skr, q_sku, if_true, if_false, nI_1]
        exact ih (a + 1) (by omega) μ0 t f0 (by omega) (q_Ms_no M (fun x => q_mvC_n hP)) _ _ _ h3 h4 h5
  refine main 16 0 rfl _ 0 (fun o x y => by rw [gc_up_ne x]) (by omega) ⟨q_up_same, fun i hi => absurd hi (by omega), fun x hx => absurd hx q_mvC_0⟩ _ _ _ q_sku q_sku q_sku
theorem q_lw_lt {P : Nat → Bool} {S : Nat → Prop} (h10 : q_ct P 16 ≤ 10) {v : Nat} (h : q_lw S v) (hS : ∀ x, S x → q_mv P x) : v < 1024 := by
  rcases h with ⟨h1, -⟩ | ⟨-, h2, -⟩
  · omega
  · exact (q_mv_at h10 (hS v h2)).2
set_option maxHeartbeats 1000000 in
theorem t_leastRanked {d : Nat} {R : gR} {μ : gM} {P : Nat → Bool} {f : Nat → Nat} {t s : Nat} (h10 : q_ct P 16 ≤ 10) (ht : t ≤ 48) (M : q_Ms μ t (q_mv P)) (hs : s < 1024) (hf : ∀ j, j < s → μ 82 j = if f j = 0 then 0 else 1) (h : ∀ v, q_lw (fun x => q_mv P x ∧ q_gd f s x) v → R (some (.int (nI v))) μ) : gc_S (d + 1) 117 [.ref 0, .int (nI s)] μ R := by
  simp only [s117, u117_0, u117_1, u117_2, u117_3, u117_5, u117_6, u117_9, u117_12, u117_15, u117_16, u117_19, u117_22, u117_23, u117_24, u117_26, u117_27, u117_29, u117_30, u117_32, u117_35, u117_36, u117_39, u117_40, u117_42, u117_43, u117_44, u117_47, u117_48, u117_51, u117_53, u117_54, u117_57, u117_59, u117_60, u117_63, u117_66, u117_67, ly_kd, ly_al, ly_fv0, ly_fv1, ly_fv2, ly_fv3, ly_fv4, ly_fk, ly_ra, Option.toList, List.cons_append, List.nil_append, q_ski, q_skr, q_sku, if_true, if_false]
  have main : ∀ m i, i + m = t → ∀ v, q_lw (fun x => (∃ j, j < i ∧ μ 81 j = nI x) ∧ q_mv P x ∧ q_gd f s x) v → ∀ l4, gc_sk l4 = true → gc_W (gc_S d) cX11_leastToWinRanked 11 0 R 4 [.ref 0, .int (nI s), .int (nI v), .int (nI i), l4] [] μ := by
    intro m
    induction m with
    | zero =>
      intro i hi v hv l4 h4
      have hi : i = t := hi
      refine (u117_4).mpr ?_
      simp only [u117_0, u117_1, u117_2, u117_3, u117_5, u117_6, u117_9, u117_12, u117_15, u117_16, u117_19, u117_22, u117_23, u117_24, u117_26, u117_27, u117_29, u117_30, u117_32, u117_35, u117_36, u117_39, u117_40, u117_42, u117_43, u117_44, u117_47, u117_48, u117_51, u117_53, u117_54, u117_57, u117_59, u117_60, u117_63, u117_66, u117_67, ly_kd, ly_al, ly_fv0, ly_fv1, ly_fv2, ly_fv3, ly_fv4, ly_fk, ly_ra, Option.toList, List.cons_append, List.nil_append, q_ski, q_skr, q_sku, if_true, if_false, M.1, show nI t ≤ nI i by rw [hi]; exact Int32.le_refl _]
      refine h v (q_lw_no hv (fun x => ?_))
      constructor
      · intro hx
        obtain ⟨j, j1, j2⟩ := M.2.2 x hx.1
        exact ⟨⟨j, by omega, j2⟩, hx⟩
      · exact fun hx => hx.2
    | succ m ih =>
      intro i hi v hv l4 h4
      have it : i < t := by omega
      obtain ⟨w, w1, w2⟩ := M.2.1 i it
      have w3 := q_mv_at h10 w1
      have v3 := q_lw_lt h10 hv (fun x hx => hx.2.1)
      have le : s &&& w ≤ w := Nat.and_le_right
      have c1 : (nI s &&& nI w = nI w) = (s &&& w = w) := propext (by rw [q_nand, nI_eq (by omega) (by omega)])
      have S1 : ∀ x, ((∃ j, j < i + 1 ∧ μ 81 j = nI x) ∧ q_mv P x ∧ q_gd f s x) ↔ (((∃ j, j < i ∧ μ 81 j = nI x) ∧ q_mv P x ∧ q_gd f s x) ∨ (x = w ∧ q_gd f s w)) := fun x => by
        constructor
        · rintro ⟨⟨j, j1, j2⟩, y1, y2⟩
          by_cases z : j = i
          · subst z
            rw [w2, nI_eq (by omega) (by have := (q_mv_at h10 y1).2; omega)] at j2
            subst j2
            exact .inr ⟨rfl, y2⟩
          · exact .inl ⟨⟨j, by omega, j2⟩, y1, y2⟩
        · rintro (⟨⟨j, j1, j2⟩, y1, y2⟩ | ⟨rfl, y⟩)
          · exact ⟨⟨j, by omega, j2⟩, y1, y2⟩
          · exact ⟨⟨i, by omega, w2⟩, w1, y⟩
      have no : ¬ q_gd f s w → ∀ x, ((∃ j, j < i + 1 ∧ μ 81 j = nI x) ∧ q_mv P x ∧ q_gd f s x) ↔ ((∃ j, j < i ∧ μ 81 j = nI x) ∧ q_mv P x ∧ q_gd f s x) := fun g x => (S1 x).trans ⟨fun z => z.elim id (fun y => absurd y.2 g), .inl⟩
      have ye : q_gd f s w → ∀ x, ((∃ j, j < i + 1 ∧ μ 81 j = nI x) ∧ q_mv P x ∧ q_gd f s x) ↔ (((∃ j, j < i ∧ μ 81 j = nI x) ∧ q_mv P x ∧ q_gd f s x) ∨ x = w) := fun g x => (S1 x).trans ⟨fun z => z.elim .inl (fun y => .inr y.1), fun z => z.elim .inl (fun y => .inr ⟨y, g⟩)⟩
      have cc : ¬ nI t ≤ nI i := nI_ge it (by omega)
      refine (u117_4).mpr ?_
      by_cases g1 : s &&& w = w
      · have lt := q_mv_lt w1 g1
        have e82 := hf _ lt
        by_cases g2 : f (s ^^^ w) = 0
        · rw [if_pos g2] at e82
          by_cases g3 : v = 0
          · subst g3
            simp only [u117_0, u117_1, u117_2, u117_3, u117_5, u117_6, u117_9, u117_12, u117_15, u117_16, u117_19, u117_22, u117_23, u117_24, u117_26, u117_27, u117_29, u117_30, u117_32, u117_35, u117_36, u117_39, u117_40, u117_42, u117_43, u117_44, u117_47, u117_48, u117_51, u117_53, u117_54, u117_57, u117_59, u117_60, u117_63, u117_66, u117_67, ly_kd, ly_al, ly_fv0, ly_fv1, ly_fv2, ly_fv3, ly_fv4, ly_fk, ly_ra, Option.toList, List.cons_append, List.nil_append, q_ski, q_skr, q_sku, if_true, if_false, M.1, cc, if_false, vp_in_nI (show i < 48 by omega) (by decide), nI_clamp (show i < 2 ^ 31 by omega), true_and, w2, h4, c1, eq_true g1, q_nxor, vp_in_nI (show s ^^^ w < 1024 by omega) (by decide), nI_clamp (show s ^^^ w < 2 ^ 31 by omega), e82, show nI 0 = 0 from rfl, nI_1]
            exact ih (i + 1) (by omega) w (q_lw_y hv w3.1 (.inl rfl) (ye ⟨g1, g2⟩)) _ q_ski
          · have n0 : ¬ nI v = 0 := fun z => g3 ((nI_eq (a := v) (b := 0) (by omega) (by omega)).mp z)
            by_cases g4 : w < v
            · simp only [u117_0, u117_1, u117_2, u117_3, u117_5, u117_6, u117_9, u117_12, u117_15, u117_16, u117_19, u117_22, u117_23, u117_24, u117_26, u117_27, u117_29, u117_30, u117_32, u117_35, u117_36, u117_39, u117_40, u117_42, u117_43, u117_44, u117_47, u117_48, u117_51, u117_53, u117_54, u117_57, u117_59, u117_60, u117_63, u117_66, u117_67, ly_kd, ly_al, ly_fv0, ly_fv1, ly_fv2, ly_fv3, ly_fv4, ly_fk, ly_ra, Option.toList, List.cons_append, List.nil_append, q_ski, q_skr, q_sku, if_true, if_false, M.1, cc, if_false, vp_in_nI (show i < 48 by omega) (by decide), nI_clamp (show i < 2 ^ 31 by omega), true_and, w2, h4, c1, eq_true g1, q_nxor, vp_in_nI (show s ^^^ w < 1024 by omega) (by decide), nI_clamp (show s ^^^ w < 2 ^ 31 by omega), e82, n0, show ¬ nI v ≤ nI w from nI_ge g4 (by omega), nI_1]
              exact ih (i + 1) (by omega) w (q_lw_y hv w3.1 (.inr g4) (ye ⟨g1, g2⟩)) _ q_ski
            · simp only [u117_0, u117_1, u117_2, u117_3, u117_5, u117_6, u117_9, u117_12, u117_15, u117_16, u117_19, u117_22, u117_23, u117_24, u117_26, u117_27, u117_29, u117_30, u117_32, u117_35, u117_36, u117_39, u117_40, u117_42, u117_43, u117_44, u117_47, u117_48, u117_51, u117_53, u117_54, u117_57, u117_59, u117_60, u117_63, u117_66, u117_67, ly_kd, ly_al, ly_fv0, ly_fv1, ly_fv2, ly_fv3, ly_fv4, ly_fk, ly_ra, Option.toList, List.cons_append, List.nil_append, q_ski, q_skr, q_sku, if_true, if_false, M.1, cc, if_false, vp_in_nI (show i < 48 by omega) (by decide), nI_clamp (show i < 2 ^ 31 by omega), true_and, w2, h4, c1, eq_true g1, q_nxor, vp_in_nI (show s ^^^ w < 1024 by omega) (by decide), nI_clamp (show s ^^^ w < 2 ^ 31 by omega), e82, n0, show nI v ≤ nI w from nI_le (by omega) (by omega), nI_1]
              exact ih (i + 1) (by omega) v (q_lw_k hv g3 (by omega) (ye ⟨g1, g2⟩)) _ q_ski
        · rw [if_neg g2] at e82
          simp only [u117_0, u117_1, u117_2, u117_3, u117_5, u117_6, u117_9, u117_12, u117_15, u117_16, u117_19, u117_22, u117_23, u117_24, u117_26, u117_27, u117_29, u117_30, u117_32, u117_35, u117_36, u117_39, u117_40, u117_42, u117_43, u117_44, u117_47, u117_48, u117_51, u117_53, u117_54, u117_57, u117_59, u117_60, u117_63, u117_66, u117_67, ly_kd, ly_al, ly_fv0, ly_fv1, ly_fv2, ly_fv3, ly_fv4, ly_fk, ly_ra, Option.toList, List.cons_append, List.nil_append, q_ski, q_skr, q_sku, if_true, if_false, M.1, cc, if_false, vp_in_nI (show i < 48 by omega) (by decide), nI_clamp (show i < 2 ^ 31 by omega), true_and, w2, h4, c1, eq_true g1, q_nxor, vp_in_nI (show s ^^^ w < 1024 by omega) (by decide), nI_clamp (show s ^^^ w < 2 ^ 31 by omega), e82, show ¬ (1 : Int32) = 0 by decide, nI_1]
          exact ih (i + 1) (by omega) v (q_lw_no hv (no (fun z => g2 z.2))) _ q_ski
      · simp only [u117_0, u117_1, u117_2, u117_3, u117_5, u117_6, u117_9, u117_12, u117_15, u117_16, u117_19, u117_22, u117_23, u117_24, u117_26, u117_27, u117_29, u117_30, u117_32, u117_35, u117_36, u117_39, u117_40, u117_42, u117_43, u117_44, u117_47, u117_48, u117_51, u117_53, u117_54, u117_57, u117_59, u117_60, u117_63, u117_66, u117_67, ly_kd, ly_al, ly_fv0, ly_fv1, ly_fv2, ly_fv3, ly_fv4, ly_fk, ly_ra, Option.toList, List.cons_append, List.nil_append, q_ski, q_skr, q_sku, if_true, if_false, M.1, cc, if_false, vp_in_nI (show i < 48 by omega) (by decide), nI_clamp (show i < 2 ^ 31 by omega), true_and, w2, h4, c1, eq_false g1, nI_1]
        exact ih (i + 1) (by omega) v (q_lw_no hv (no (fun z => g1 z.1))) _ q_ski
  exact main t 0 (by omega) 0 (.inl ⟨rfl, fun x hx => by obtain ⟨⟨j, j1, -⟩, -⟩ := hx; exact absurd j1 (by omega)⟩) _ q_sku
def q_clo (P : Nat → Bool) (v : Nat) : Int32 := q_set (fun c => P c && v.testBit (q_ct P c)) 16
theorem t_unranked {d : Nat} {R : gR} {μ : gM} {P : Nat → Bool} {v : Nat} (h10 : q_ct P 16 ≤ 10) (h : R (some (.int (q_clo P v))) μ) : gc_S (d + 3) 118 [.int (nI v), .int (q_set P 16)] μ R := by
  simp only [s118, u118_0, u118_1, u118_2, u118_3, u118_5, u118_7, u118_10, u118_11, u118_12, u118_13, u118_14, u118_15, u118_16, u118_19, u118_20, u118_21, u118_22, u118_25, u118_26, u118_27, u118_28, u118_29, u118_32, u118_33, u118_34, u118_35, u118_36, u118_37, u118_38, u118_41, u118_44, u118_45, ly_kd, ly_al, ly_fv0, ly_fv1, ly_fv2, ly_fv3, ly_fv4, ly_fk, ly_ra, Option.toList, List.cons_append, List.nil_append, q_ski, q_skr, q_sku, if_true, if_false]
  have main : ∀ m c, c + m = 16 → gc_W (gc_S (d+2)) cX11_unranked 11 0 R 4 [.int (nI v), .int (q_set P 16), .int (q_set (fun c => P c && v.testBit (q_ct P c)) c), .int (nI c)] [] μ := by
    intro m
    induction m with
    | zero =>
      intro c hc
      obtain rfl : c = 16 := hc
      refine (u118_4).mpr ?_
      simp only [u118_0, u118_1, u118_2, u118_3, u118_5, u118_7, u118_10, u118_11, u118_12, u118_13, u118_14, u118_15, u118_16, u118_19, u118_20, u118_21, u118_22, u118_25, u118_26, u118_27, u118_28, u118_29, u118_32, u118_33, u118_34, u118_35, u118_36, u118_37, u118_38, u118_41, u118_44, u118_45, show (16 : Int32) ≤ nI 16 by decide, if_true]
      exact h
    | succ m ih =>
      intro c hc
      have c16 : c < 16 := by omega
      have ih := ih (c + 1) (by omega)
      have e : q_set (fun c => P c && v.testBit (q_ct P c)) (c + 1) = q_set (fun c => P c && v.testBit (q_ct P c)) c ||| (if (P c && v.testBit (q_ct P c)) = true then (1 : Int32) <<< (nI c &&& 31) else 0) := rfl
      rw [e] at ih
      refine (u118_4).mpr ?_
      by_cases g1 : P c = true
      · have pw := q_pw_lt h10 c16 g1
        by_cases g2 : v.testBit (q_ct P c) = true
        · rw [if_pos (by rw [g1, g2]; rfl)] at ih
          simp only [u118_0, u118_1, u118_2, u118_3, u118_5, u118_7, u118_10, u118_11, u118_12, u118_13, u118_14, u118_15, u118_16, u118_19, u118_20, u118_21, u118_22, u118_25, u118_26, u118_27, u118_28, u118_29, u118_32, u118_33, u118_34, u118_35, u118_36, u118_37, u118_38, u118_41, u118_44, u118_45, q_nle c16 (by decide) (show (16 : Int32) = nI 16 from rfl), if_false, q_isb c16, g1, t_rank c16, q_isn (show q_ct P c < 32 by omega), g2, ly_kd, ly_al, ly_fv0, ly_fv1, ly_fv2, ly_fv3, ly_fv4, ly_fk, ly_ra, Option.toList, List.cons_append, List.nil_append, q_ski, q_skr, q_sku, if_true, if_false, nI_1]
          exact ih
        · rw [if_neg (fun z => g2 ((Bool.and_eq_true _ _).mp z).2), Int32.or_zero] at ih
          simp only [u118_0, u118_1, u118_2, u118_3, u118_5, u118_7, u118_10, u118_11, u118_12, u118_13, u118_14, u118_15, u118_16, u118_19, u118_20, u118_21, u118_22, u118_25, u118_26, u118_27, u118_28, u118_29, u118_32, u118_33, u118_34, u118_35, u118_36, u118_37, u118_38, u118_41, u118_44, u118_45, q_nle c16 (by decide) (show (16 : Int32) = nI 16 from rfl), if_false, q_isb c16, g1, t_rank c16, q_isn (show q_ct P c < 32 by omega), eq_false g2, ly_kd, ly_al, ly_fv0, ly_fv1, ly_fv2, ly_fv3, ly_fv4, ly_fk, ly_ra, Option.toList, List.cons_append, List.nil_append, q_ski, q_skr, q_sku, if_true, if_false, nI_1]
          exact ih
      · rw [if_neg (fun z => g1 ((Bool.and_eq_true _ _).mp z).1), Int32.or_zero] at ih
        simp only [u118_0, u118_1, u118_2, u118_3, u118_5, u118_7, u118_10, u118_11, u118_12, u118_13, u118_14, u118_15, u118_16, u118_19, u118_20, u118_21, u118_22, u118_25, u118_26, u118_27, u118_28, u118_29, u118_32, u118_33, u118_34, u118_35, u118_36, u118_37, u118_38, u118_41, u118_44, u118_45, q_nle c16 (by decide) (show (16 : Int32) = nI 16 from rfl), if_false, q_isb c16, eq_false g1, ly_kd, ly_al, ly_fv0, ly_fv1, ly_fv2, ly_fv3, ly_fv4, ly_fk, ly_ra, Option.toList, List.cons_append, List.nil_append, q_ski, q_skr, q_sku, if_true, if_false, nI_1]
        exact ih
  exact main 16 0 rfl
set_option maxHeartbeats 1000000 in
theorem t_leastToWin {d : Nat} {R : gR} {μ : gM} {P : Nat → Bool} (h10 : q_ct P 16 ≤ 10) (h : ∀ μ' f, (∀ o, o ≠ 80 → o ≠ 81 → o ≠ 82 → μ' o = μ o) → (∀ s, s < 2 ^ q_ct P 16 → q_wn P f s) → R (some (.int (q_clo P (f (2 ^ q_ct P 16 - 1))))) μ') : gc_S (d + 4) 119 [.ref 0, .int (q_set P 16)] μ R := by
  simp only [s119, u119_0, u119_1, u119_2, u119_5, u119_6, u119_7, u119_10, u119_11, u119_12, u119_13, u119_14, u119_15, u119_16, u119_17, u119_21, u119_22, u119_25, u119_26, u119_28, u119_31, u119_32, u119_33, u119_36, u119_38, u119_39, u119_42, u119_43, u119_46, u119_47, u119_48, u119_51, u119_54, u119_55, u119_56, u119_59, ly_kd, ly_al, ly_fv0, ly_fv1, ly_fv2, ly_fv3, ly_fv4, ly_fk, ly_ra, Option.toList, List.cons_append, List.nil_append, q_ski, q_skr, q_sku, if_true, if_false]
  refine t_listDry h10 (fun μ0 t f0 ht M0 => ?_)
  have hN : 2 ^ q_ct P 16 ≤ 2 ^ 10 := Nat.pow_le_pow_right (by decide) h10
  have hN0 : 0 < 2 ^ q_ct P 16 := Nat.pow_pos (by decide)
  have e1 : nI (2 ^ q_ct P 16) - 1 = nI (2 ^ q_ct P 16 - 1) := by
    have := nI_pred (2 ^ q_ct P 16 - 1)
    rw [show 2 ^ q_ct P 16 - 1 + 1 = 2 ^ q_ct P 16 by omega] at this
    exact this
  simp only [u119_0, u119_1, u119_2, u119_5, u119_6, u119_7, u119_10, u119_11, u119_12, u119_13, u119_14, u119_15, u119_16, u119_17, u119_21, u119_22, u119_25, u119_26, u119_28, u119_31, u119_32, u119_33, u119_36, u119_38, u119_39, u119_42, u119_43, u119_46, u119_47, u119_48, u119_51, u119_54, u119_55, u119_56, u119_59, ly_kd, ly_al, ly_fv0, ly_fv1, ly_fv2, ly_fv3, ly_fv4, ly_fk, ly_ra, Option.toList, List.cons_append, List.nil_append, q_ski, q_skr, q_sku, if_true, if_false, t_bitCount, q_pw (q_ct P 16) (by omega), e1]
  have main : ∀ m s, s + m = 2 ^ q_ct P 16 → ∀ μ1 f, (∀ o, o ≠ 82 → μ1 o = μ0 o) → (∀ j, j < s → q_wn P f j) → (∀ j, j < s → μ1 82 j = if f j = 0 then 0 else 1) → ∀ v, (0 < s → v = nI (f (s - 1))) → gc_W (gc_S (d+3)) cX11_leastToWin 11 0 R 19 [.ref 0, .int (q_set P 16), .int (nI (2 ^ q_ct P 16 - 1)), .int v, .int (nI s)] [] μ1 := by
    intro m
    induction m with
    | zero =>
      intro s hs μ1 f f1 hw hv v v0
      have hs : s = 2 ^ q_ct P 16 := hs
      subst hs
      refine (u119_19).mpr ?_
      simp only [u119_0, u119_1, u119_2, u119_5, u119_6, u119_7, u119_10, u119_11, u119_12, u119_13, u119_14, u119_15, u119_16, u119_17, u119_21, u119_22, u119_25, u119_26, u119_28, u119_31, u119_32, u119_33, u119_36, u119_38, u119_39, u119_42, u119_43, u119_46, u119_47, u119_48, u119_51, u119_54, u119_55, u119_56, u119_59, show nI (2 ^ q_ct P 16 - 1) < nI (2 ^ q_ct P 16) from nI_lt (by omega) (by omega), if_true, v0 hN0]
      refine t_unranked h10 ?_
      simp only [u119_0, u119_1, u119_2, u119_5, u119_6, u119_7, u119_10, u119_11, u119_12, u119_13, u119_14, u119_15, u119_16, u119_17, u119_21, u119_22, u119_25, u119_26, u119_28, u119_31, u119_32, u119_33, u119_36, u119_38, u119_39, u119_42, u119_43, u119_46, u119_47, u119_48, u119_51, u119_54, u119_55, u119_56, u119_59, Option.toList, List.cons_append, List.nil_append, q_ski, q_skr, q_sku, if_true, if_false]
      exact h μ1 f (fun o a b c => by rw [f1 o c, f0 o a b]) hw
    | succ m ih =>
      intro s hs μ1 f f1 hw hv v v0
      have M1 : q_Ms μ1 t (q_mv P) := ⟨by rw [f1 80 (by omega)]; exact M0.1, fun i hi => by rw [f1 81 (by omega)]; exact M0.2.1 i hi, fun x hx => by rw [f1 81 (by omega)]; exact M0.2.2 x hx⟩
      refine (u119_19).mpr ?_
      simp only [u119_0, u119_1, u119_2, u119_5, u119_6, u119_7, u119_10, u119_11, u119_12, u119_13, u119_14, u119_15, u119_16, u119_17, u119_21, u119_22, u119_25, u119_26, u119_28, u119_31, u119_32, u119_33, u119_36, u119_38, u119_39, u119_42, u119_43, u119_46, u119_47, u119_48, u119_51, u119_54, u119_55, u119_56, u119_59, show ¬ nI (2 ^ q_ct P 16 - 1) < nI s from nI_nlt (by omega) (by omega), if_false, ly_kd, ly_al, ly_fv0, ly_fv1, ly_fv2, ly_fv3, ly_fv4, ly_fk, ly_ra, Option.toList, List.cons_append, List.nil_append, q_ski, q_skr, q_sku, if_true, if_false]
      refine t_leastRanked h10 ht M1 (by omega) hv (fun w hw1 => ?_)
      have w3 := q_lw_lt h10 hw1 (fun x hx => hx.1)
      have nx : ∀ z : Int32, z = (if w = 0 then 0 else 1) → gc_W (gc_S (d+3)) cX11_leastToWin 11 0 R 19 [.ref 0, .int (q_set P 16), .int (nI (2 ^ q_ct P 16 - 1)), .int (nI w), .int (nI (s + 1))] [] (gc_up μ1 82 s z) := fun z hz => by
        refine ih (s + 1) (by omega) _ (fun j => if j = s then w else f j) (fun o ho => by rw [gc_up_ne ho]; exact f1 o ho) (fun j hj => ?_) (fun j hj => ?_) _ (fun _ => ?_)
        · by_cases y : j = s
          · subst y
            show q_lw _ (if j = j then w else f j)
            rw [if_pos rfl]
            refine q_lw_no hw1 (fun x => ?_)
            show _ ∧ _ ∧ (if j ^^^ x = j then w else f (j ^^^ x)) = 0 ↔ _
            constructor
            · rintro ⟨a, b, c⟩
              rw [if_neg (Nat.ne_of_lt (q_mv_lt a b))] at c
              exact ⟨a, b, c⟩
            · rintro ⟨a, b, c⟩
              refine ⟨a, b, ?_⟩
              rw [if_neg (Nat.ne_of_lt (q_mv_lt a b))]
              exact c
          · exact q_wn_up (hw j (by omega)) (fun i hi => if_neg (by omega))
        · by_cases y : j = s
          · subst y
            rw [q_up_same, if_pos rfl]; exact hz
          · rw [q_up_j y, if_neg y]; exact hv j (by omega)
        · rw [Nat.add_sub_cancel, if_pos rfl]
      by_cases w0 : w = 0
      · subst w0
        simp only [u119_0, u119_1, u119_2, u119_5, u119_6, u119_7, u119_10, u119_11, u119_12, u119_13, u119_14, u119_15, u119_16, u119_17, u119_21, u119_22, u119_25, u119_26, u119_28, u119_31, u119_32, u119_33, u119_36, u119_38, u119_39, u119_42, u119_43, u119_46, u119_47, u119_48, u119_51, u119_54, u119_55, u119_56, u119_59, ly_kd, ly_al, ly_fv0, ly_fv1, ly_fv2, ly_fv3, ly_fv4, ly_fk, ly_ra, Option.toList, List.cons_append, List.nil_append, q_ski, q_skr, q_sku, if_true, if_false, show nI 0 = 0 from rfl, vp_in_nI (show s < 1024 by omega) (by decide), nI_clamp (show s < 2 ^ 31 by omega), true_and, true_or, nI_1]
        exact nx 0 rfl
      · have n0 : ¬ nI w = 0 := fun z => w0 ((nI_eq (a := w) (b := 0) (by omega) (by omega)).mp z)
        simp only [u119_0, u119_1, u119_2, u119_5, u119_6, u119_7, u119_10, u119_11, u119_12, u119_13, u119_14, u119_15, u119_16, u119_17, u119_21, u119_22, u119_25, u119_26, u119_28, u119_31, u119_32, u119_33, u119_36, u119_38, u119_39, u119_42, u119_43, u119_46, u119_47, u119_48, u119_51, u119_54, u119_55, u119_56, u119_59, ly_kd, ly_al, ly_fv0, ly_fv1, ly_fv2, ly_fv3, ly_fv4, ly_fk, ly_ra, Option.toList, List.cons_append, List.nil_append, q_ski, q_skr, q_sku, if_true, if_false, n0, if_false, vp_in_nI (show s < 1024 by omega) (by decide), nI_clamp (show s < 2 ^ 31 by omega), true_and, or_true, nI_1]
        exact nx 1 (if_neg w0).symm
  exact main (2 ^ q_ct P 16) 0 (by omega) μ0 (fun _ => 0) (fun _ _ => rfl) (fun j hj => absurd hj (by omega)) (fun j hj => absurd hj (by omega)) 0 (fun z => absurd z (by omega))
