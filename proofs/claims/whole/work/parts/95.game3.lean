/-! the game: the reference -/
theorem q_clo_0 {P : Nat → Bool} {f : Nat → Nat} {s : Nat} (h : q_wn P f s) : q_clo P (f s) = 0 ↔ f s = 0 := by
  unfold q_clo
  rw [q_set_0]
  constructor
  · intro e
    rcases h with ⟨h1, -⟩ | ⟨h1, ⟨h2, -⟩, -⟩
    · exact h1
    · obtain ⟨a, b, h1, h2, h3, h4, h5, h6⟩ := h2
      have := e a h1
      rw [h3, h6, Nat.testBit_or, Nat.testBit_two_pow_self] at this
      cases this
  · intro e c hc
    rw [e, Nat.zero_testBit, Bool.and_false]
theorem q_wn_lt {P : Nat → Bool} {f : Nat → Nat} {s : Nat} (h10 : q_ct P 16 ≤ 10) (h : q_wn P f s) : f s < 1024 := q_lw_lt h10 h (fun _ hx => hx.1)
set_option maxHeartbeats 1000000 in
theorem m_winsBy {d : Nat} {R : gR} {μ : gM} {P : Nat → Bool} {f : Nat → Nat} {s : Nat} (h10 : q_ct P 16 ≤ 10) (hc : ∀ c, c < 16 → P c = true → μ 95 (q_ct P c) = nI c) (hs : s < 1024) (hf : ∀ j, j < s → μ 96 j = nI (f j)) (hw : ∀ j, j ≤ s → q_wn P f j) (h : R (some (.int (nI (f s)))) μ) : gc_S (d + 2) 225 [.ref 83, .int (nI s), .int (nI (q_ct P 16))] μ R := by
  simp only [s225, u225_0, u225_1, u225_2, u225_3, u225_7, u225_8, u225_11, u225_13, u225_17, u225_18, u225_21, u225_22, u225_24, u225_25, u225_26, u225_28, u225_29, u225_30, u225_32, u225_34, u225_35, u225_36, u225_37, u225_38, u225_41, u225_43, u225_45, u225_48, u225_49, u225_52, u225_54, u225_55, u225_56, u225_59, u225_61, u225_62, u225_65, u225_68, u225_69, u225_72, u225_73, u225_75, u225_76, u225_77, u225_78, u225_79, u225_82, u225_83, u225_86, u225_88, u225_89, u225_92, u225_94, u225_95, u225_98, u225_101, u225_104, u225_107, u225_108, ly_kd, ly_al, ly_fv0, ly_fv1, ly_fv2, ly_fv3, ly_fv4, ly_fk, ly_ra, Option.toList, List.cons_append, List.nil_append, q_ski, q_skr, q_sku, if_true, if_false]
  have main : ∀ m p, p + m = q_ct P 16 → ∀ v, q_lw (fun x => q_mvR P p p x ∧ q_gd f s x) v → ∀ l5 l6, gc_sk l5 = true → gc_sk l6 = true → gc_W (gc_S (d+1)) cX12_winsBy 12 0 R 5 [.ref 83, .int (nI s), .int (nI (q_ct P 16)), .int (nI v), .int (nI p), l5, l6] [] μ := by
    intro m
    induction m with
    | zero =>
      intro p hp v hv l5 l6 h5 h6
      have hp : p = q_ct P 16 := hp
      subst hp
      have e := q_lw_u (hw s (Nat.le_refl _)) (q_lw_no hv (fun x => by
        constructor
        · exact fun hx => ⟨q_mvR_end.mpr hx.1, hx.2⟩
        · exact fun hx => ⟨q_mvR_end.mp hx.1, hx.2⟩))
      refine (u225_5).mpr ?_
      simp only [u225_0, u225_1, u225_2, u225_3, u225_7, u225_8, u225_11, u225_13, u225_17, u225_18, u225_21, u225_22, u225_24, u225_25, u225_26, u225_28, u225_29, u225_30, u225_32, u225_34, u225_35, u225_36, u225_37, u225_38, u225_41, u225_43, u225_45, u225_48, u225_49, u225_52, u225_54, u225_55, u225_56, u225_59, u225_61, u225_62, u225_65, u225_68, u225_69, u225_72, u225_73, u225_75, u225_76, u225_77, u225_78, u225_79, u225_82, u225_83, u225_86, u225_88, u225_89, u225_92, u225_94, u225_95, u225_98, u225_101, u225_104, u225_107, u225_108, show nI (q_ct P 16) ≤ nI (q_ct P 16) from Int32.le_refl _, if_true]
      rw [← e]; exact h
    | succ m ih =>
      intro p hp v hv l5 l6 h5 h6
      have pn : p < q_ct P 16 := by omega
      obtain ⟨a, a16, Pa, ea⟩ := q_ct_on 16 p pn
      refine (u225_5).mpr ?_
      simp only [u225_0, u225_1, u225_2, u225_3, u225_7, u225_8, u225_11, u225_13, u225_17, u225_18, u225_21, u225_22, u225_24, u225_25, u225_26, u225_28, u225_29, u225_30, u225_32, u225_34, u225_35, u225_36, u225_37, u225_38, u225_41, u225_43, u225_45, u225_48, u225_49, u225_52, u225_54, u225_55, u225_56, u225_59, u225_61, u225_62, u225_65, u225_68, u225_69, u225_72, u225_73, u225_75, u225_76, u225_77, u225_78, u225_79, u225_82, u225_83, u225_86, u225_88, u225_89, u225_92, u225_94, u225_95, u225_98, u225_101, u225_104, u225_107, u225_108, show ¬ nI (q_ct P 16) ≤ nI p from nI_ge pn (by omega), if_false, Option.toList, List.cons_append, List.nil_append, q_ski, q_skr, q_sku, if_true, if_false, h5]
      have inner : ∀ m q, q + m = q_ct P 16 → p ≤ q → ∀ v, q_lw (fun x => q_mvR P p q x ∧ q_gd f s x) v → ∀ l6, gc_sk l6 = true → gc_W (gc_S (d+1)) cX12_winsBy 12 0 R 15 [.ref 83, .int (nI s), .int (nI (q_ct P 16)), .int (nI v), .int (nI p), .int (nI q), l6] [] μ := by
        intro m
        induction m with
        | zero =>
          intro q hq hpq v hv l6 h6
          have hq : q = q_ct P 16 := hq
          subst hq
          refine (u225_15).mpr ?_
          simp only [u225_0, u225_1, u225_2, u225_3, u225_7, u225_8, u225_11, u225_13, u225_17, u225_18, u225_21, u225_22, u225_24, u225_25, u225_26, u225_28, u225_29, u225_30, u225_32, u225_34, u225_35, u225_36, u225_37, u225_38, u225_41, u225_43, u225_45, u225_48, u225_49, u225_52, u225_54, u225_55, u225_56, u225_59, u225_61, u225_62, u225_65, u225_68, u225_69, u225_72, u225_73, u225_75, u225_76, u225_77, u225_78, u225_79, u225_82, u225_83, u225_86, u225_88, u225_89, u225_92, u225_94, u225_95, u225_98, u225_101, u225_104, u225_107, u225_108, show nI (q_ct P 16) ≤ nI (q_ct P 16) from Int32.le_refl _, if_true, nI_1]
          refine ih (p + 1) (by omega) v (q_lw_no hv (fun x => ?_)) _ _ q_ski h6
          constructor
          · exact fun hx => ⟨q_mvR_nx.mpr hx.1, hx.2⟩
          · exact fun hx => ⟨q_mvR_nx.mp hx.1, hx.2⟩
        | succ m ih2 =>
          intro q hq hpq v hv l6 h6
          have qn : q < q_ct P 16 := by omega
          obtain ⟨b, b16, Pb, eb⟩ := q_ct_on 16 q qn
          have mv : (a = b ∨ q_adj a b = true) → q_mv P (2 ^ p ||| 2 ^ q) := fun z => ⟨a, b, a16, b16, Pa, Pb, z, by rw [ea, eb]⟩
          have v3 := q_lw_lt h10 hv (fun x hx => by obtain ⟨⟨a', b', g, -⟩, -⟩ := hx; exact ⟨a', b', g⟩)
          have pw1 := q_pw p (by omega)
          have pw2 := q_pw q (by omega)
          have p1 : 2 ^ p ≤ 2 ^ 9 := Nat.pow_le_pow_right (by decide) (by omega)
          have p2 : 2 ^ q ≤ 2 ^ 9 := Nat.pow_le_pow_right (by decide) (by omega)
          have w3 : 2 ^ p ||| 2 ^ q < 1024 := Nat.or_lt_two_pow (n := 10) (by omega) (by omega)
          have no : ¬ ((a = b ∨ q_adj a b = true) ∧ q_gd f s (2 ^ p ||| 2 ^ q)) → ∀ x, (q_mvR P p (q + 1) x ∧ q_gd f s x) ↔ (q_mvR P p q x ∧ q_gd f s x) := fun g x => by
            by_cases z : a = b ∨ q_adj a b = true
            · have e := q_mvR_iy (x := x) a16 b16 Pa Pb (by omega) z
              rw [ea, eb] at e
              rw [e]
              constructor
              · rintro ⟨y | y, y2⟩
                · exact ⟨y, y2⟩
                · subst y; exact absurd ⟨z, y2⟩ g
              · exact fun y => ⟨.inl y.1, y.2⟩
            · have e := q_mvR_in (x := x) Pa Pb z
              rw [ea, eb] at e
              rw [e]
          have ye : (a = b ∨ q_adj a b = true) → q_gd f s (2 ^ p ||| 2 ^ q) → ∀ x, (q_mvR P p (q + 1) x ∧ q_gd f s x) ↔ ((q_mvR P p q x ∧ q_gd f s x) ∨ x = 2 ^ p ||| 2 ^ q) := fun z g x => by
            have e := q_mvR_iy (x := x) a16 b16 Pa Pb (by omega) z
            rw [ea, eb] at e
            rw [e]
            constructor
            · rintro ⟨y | y, y2⟩
              · exact .inl ⟨y, y2⟩
              · exact .inr y
            · rintro (y | y)
              · exact ⟨.inl y.1, y.2⟩
              · subst y; exact ⟨.inr rfl, g⟩
          have nx : ∀ v' : Nat, q_lw (fun x => q_mvR P p (q + 1) x ∧ q_gd f s x) v' → gc_W (gc_S (d+1)) cX12_winsBy 12 0 R 15 [.ref 83, .int (nI s), .int (nI (q_ct P 16)), .int (nI v'), .int (nI p), .int (nI (q + 1)), .int (nI (2 ^ p ||| 2 ^ q))] [] μ := fun v' hv' => ih2 (q + 1) (by omega) (by omega) v' hv' _ q_ski
          have ca : μ 95 p = nI a := by rw [← ea]; exact hc a a16 Pa
          have cb : μ 95 q = nI b := by rw [← eb]; exact hc b b16 Pb
          have gp : (nI p = nI q) = (a = b) := propext (by
            rw [nI_eq (by omega) (by omega)]
            constructor
            · intro z; exact q_ct_in Pa Pb (by rw [ea, eb, z])
            · intro z; subst z; omega)
          generalize hW : 2 ^ p ||| 2 ^ q = w at *
          have c1 : (nI w &&& (nI s ^^^ -1) = 0) = (s &&& w = w) := propext (q_nsub (by omega) (by omega))
          have qq : ¬ nI (q_ct P 16) ≤ nI q := nI_ge qn (by omega)
          have iq := vp_in_nI (show q < 10 by omega) (show 10 < 2 ^ 31 by decide)
          have ip := vp_in_nI (show p < 10 by omega) (show 10 < 2 ^ 31 by decide)
          have kq := nI_clamp (show q < 2 ^ 31 by omega)
          have kp := nI_clamp (show p < 2 ^ 31 by omega)
          -- behind the guard of the neighbours
          have tail : (a = b ∨ q_adj a b = true) → s &&& w = w → gc_W (gc_S (d+1)) cX12_winsBy 12 0 R 68 [.ref 83, .int (nI s), .int (nI (q_ct P 16)), .int (nI v), .int (nI p), .int (nI q), .int (nI w)] [] μ := fun z g1 => by
            have w0 := (q_mv_at h10 (mv z)).1
            have lt := q_mv_lt (mv z) g1
            have e96 := hf _ lt
            have fl := q_wn_lt h10 (hw (s ^^^ w) (by omega))
            by_cases g2 : f (s ^^^ w) = 0
            · have e96 : μ 96 (s ^^^ w) = 0 := by rw [e96, g2]; rfl
              by_cases g3 : v = 0
              · subst g3
                simp only [u225_0, u225_1, u225_2, u225_3, u225_7, u225_8, u225_11, u225_13, u225_17, u225_18, u225_21, u225_22, u225_24, u225_25, u225_26, u225_28, u225_29, u225_30, u225_32, u225_34, u225_35, u225_36, u225_37, u225_38, u225_41, u225_43, u225_45, u225_48, u225_49, u225_52, u225_54, u225_55, u225_56, u225_59, u225_61, u225_62, u225_65, u225_68, u225_69, u225_72, u225_73, u225_75, u225_76, u225_77, u225_78, u225_79, u225_82, u225_83, u225_86, u225_88, u225_89, u225_92, u225_94, u225_95, u225_98, u225_101, u225_104, u225_107, u225_108, ly_kd, ly_al, ly_fv0, ly_fv1, ly_fv2, ly_fv3, ly_fv4, ly_fk, ly_ra, Option.toList, List.cons_append, List.nil_append, q_ski, q_skr, q_sku, if_true, if_false, q_ndif g1, vp_in_nI (show s ^^^ w < 1024 by omega) (by decide), nI_clamp (show s ^^^ w < 2 ^ 31 by omega), true_and, e96, show nI 0 = 0 from rfl, nI_1]
                exact nx w (q_lw_y hv w0 (.inl rfl) (ye z ⟨g1, g2⟩))
              · have n0 : ¬ nI v = 0 := fun z => g3 ((nI_eq (a := v) (b := 0) (by omega) (by omega)).mp z)
                by_cases g4 : w < v
                · simp only [u225_0, u225_1, u225_2, u225_3, u225_7, u225_8, u225_11, u225_13, u225_17, u225_18, u225_21, u225_22, u225_24, u225_25, u225_26, u225_28, u225_29, u225_30, u225_32, u225_34, u225_35, u225_36, u225_37, u225_38, u225_41, u225_43, u225_45, u225_48, u225_49, u225_52, u225_54, u225_55, u225_56, u225_59, u225_61, u225_62, u225_65, u225_68, u225_69, u225_72, u225_73, u225_75, u225_76, u225_77, u225_78, u225_79, u225_82, u225_83, u225_86, u225_88, u225_89, u225_92, u225_94, u225_95, u225_98, u225_101, u225_104, u225_107, u225_108, ly_kd, ly_al, ly_fv0, ly_fv1, ly_fv2, ly_fv3, ly_fv4, ly_fk, ly_ra, Option.toList, List.cons_append, List.nil_append, q_ski, q_skr, q_sku, if_true, if_false, q_ndif g1, vp_in_nI (show s ^^^ w < 1024 by omega) (by decide), nI_clamp (show s ^^^ w < 2 ^ 31 by omega), true_and, e96, n0, show ¬ nI v ≤ nI w from nI_ge g4 (by omega), nI_1]
                  exact nx w (q_lw_y hv w0 (.inr g4) (ye z ⟨g1, g2⟩))
                · simp only [u225_0, u225_1, u225_2, u225_3, u225_7, u225_8, u225_11, u225_13, u225_17, u225_18, u225_21, u225_22, u225_24, u225_25, u225_26, u225_28, u225_29, u225_30, u225_32, u225_34, u225_35, u225_36, u225_37, u225_38, u225_41, u225_43, u225_45, u225_48, u225_49, u225_52, u225_54, u225_55, u225_56, u225_59, u225_61, u225_62, u225_65, u225_68, u225_69, u225_72, u225_73, u225_75, u225_76, u225_77, u225_78, u225_79, u225_82, u225_83, u225_86, u225_88, u225_89, u225_92, u225_94, u225_95, u225_98, u225_101, u225_104, u225_107, u225_108, ly_kd, ly_al, ly_fv0, ly_fv1, ly_fv2, ly_fv3, ly_fv4, ly_fk, ly_ra, Option.toList, List.cons_append, List.nil_append, q_ski, q_skr, q_sku, if_true, if_false, q_ndif g1, vp_in_nI (show s ^^^ w < 1024 by omega) (by decide), nI_clamp (show s ^^^ w < 2 ^ 31 by omega), true_and, e96, n0, show nI v ≤ nI w from nI_le (by omega) (by omega), nI_1]
                  exact nx v (q_lw_k hv g3 (by omega) (ye z ⟨g1, g2⟩))
            · have e96' : ¬ μ 96 (s ^^^ w) = 0 := fun y => g2 ((nI_eq (a := f (s ^^^ w)) (b := 0) (by omega) (by omega)).mp (e96.symm.trans y))
              simp only [u225_0, u225_1, u225_2, u225_3, u225_7, u225_8, u225_11, u225_13, u225_17, u225_18, u225_21, u225_22, u225_24, u225_25, u225_26, u225_28, u225_29, u225_30, u225_32, u225_34, u225_35, u225_36, u225_37, u225_38, u225_41, u225_43, u225_45, u225_48, u225_49, u225_52, u225_54, u225_55, u225_56, u225_59, u225_61, u225_62, u225_65, u225_68, u225_69, u225_72, u225_73, u225_75, u225_76, u225_77, u225_78, u225_79, u225_82, u225_83, u225_86, u225_88, u225_89, u225_92, u225_94, u225_95, u225_98, u225_101, u225_104, u225_107, u225_108, ly_kd, ly_al, ly_fv0, ly_fv1, ly_fv2, ly_fv3, ly_fv4, ly_fk, ly_ra, Option.toList, List.cons_append, List.nil_append, q_ski, q_skr, q_sku, if_true, if_false, q_ndif g1, vp_in_nI (show s ^^^ w < 1024 by omega) (by decide), nI_clamp (show s ^^^ w < 2 ^ 31 by omega), true_and, e96', nI_1]
              exact nx v (q_lw_no hv (no (fun y => g2 y.2.2)))
          refine (u225_15).mpr ?_
          by_cases g1 : s &&& w = w
          · by_cases g5 : a = b
            · simp only [u225_0, u225_1, u225_2, u225_3, u225_7, u225_8, u225_11, u225_13, u225_17, u225_18, u225_21, u225_22, u225_24, u225_25, u225_26, u225_28, u225_29, u225_30, u225_32, u225_34, u225_35, u225_36, u225_37, u225_38, u225_41, u225_43, u225_45, u225_48, u225_49, u225_52, u225_54, u225_55, u225_56, u225_59, u225_61, u225_62, u225_65, u225_69, u225_72, u225_73, u225_75, u225_76, u225_77, u225_78, u225_79, u225_82, u225_83, u225_86, u225_88, u225_89, u225_92, u225_94, u225_95, u225_98, u225_101, u225_104, u225_107, u225_108, ly_kd, ly_al, ly_fv0, ly_fv1, ly_fv2, ly_fv3, ly_fv4, ly_fk, ly_ra, Option.toList, List.cons_append, List.nil_append, q_ski, q_skr, q_sku, if_true, if_false, qq, if_false, pw1, pw2, q_nor, hW, h6, c1, eq_true g1, gp, eq_true g5]
              exact tail (.inl g5) g1
            · by_cases g6 : q_adj a b = true
              · simp only [u225_0, u225_1, u225_2, u225_3, u225_7, u225_8, u225_11, u225_13, u225_17, u225_18, u225_21, u225_22, u225_24, u225_25, u225_26, u225_28, u225_29, u225_30, u225_32, u225_34, u225_35, u225_36, u225_37, u225_38, u225_41, u225_43, u225_45, u225_48, u225_49, u225_52, u225_54, u225_55, u225_56, u225_59, u225_61, u225_62, u225_65, u225_69, u225_72, u225_73, u225_75, u225_76, u225_77, u225_78, u225_79, u225_82, u225_83, u225_86, u225_88, u225_89, u225_92, u225_94, u225_95, u225_98, u225_101, u225_104, u225_107, u225_108, ly_kd, ly_al, ly_fv0, ly_fv1, ly_fv2, ly_fv3, ly_fv4, ly_fk, ly_ra, Option.toList, List.cons_append, List.nil_append, q_ski, q_skr, q_sku, if_true, if_false, qq, if_false, pw1, pw2, q_nor, hW, h6, c1, eq_true g1, gp, eq_false g5, iq, ip, kq, kp, ca, cb, true_and, m_isBeside a16 b16, q_bt g6, show ¬ (1 : Int32) = 0 by decide]
                exact tail (.inr g6) g1
              · simp only [u225_0, u225_1, u225_2, u225_3, u225_7, u225_8, u225_11, u225_13, u225_17, u225_18, u225_21, u225_22, u225_24, u225_25, u225_26, u225_28, u225_29, u225_30, u225_32, u225_34, u225_35, u225_36, u225_37, u225_38, u225_41, u225_43, u225_45, u225_48, u225_49, u225_52, u225_54, u225_55, u225_56, u225_59, u225_61, u225_62, u225_65, u225_69, u225_72, u225_73, u225_75, u225_76, u225_77, u225_78, u225_79, u225_82, u225_83, u225_86, u225_88, u225_89, u225_92, u225_94, u225_95, u225_98, u225_101, u225_104, u225_107, u225_108, ly_kd, ly_al, ly_fv0, ly_fv1, ly_fv2, ly_fv3, ly_fv4, ly_fk, ly_ra, Option.toList, List.cons_append, List.nil_append, q_ski, q_skr, q_sku, if_true, if_false, qq, if_false, pw1, pw2, q_nor, hW, h6, c1, eq_true g1, gp, eq_false g5, iq, ip, kq, kp, ca, cb, true_and, m_isBeside a16 b16, q_bf g6, nI_1]
                exact nx v (q_lw_no hv (no (fun y => y.1.elim g5 g6)))
          · simp only [u225_0, u225_1, u225_2, u225_3, u225_7, u225_8, u225_11, u225_13, u225_17, u225_18, u225_21, u225_22, u225_24, u225_25, u225_26, u225_28, u225_29, u225_30, u225_32, u225_34, u225_35, u225_36, u225_37, u225_38, u225_41, u225_43, u225_45, u225_48, u225_49, u225_52, u225_54, u225_55, u225_56, u225_59, u225_61, u225_62, u225_65, u225_69, u225_72, u225_73, u225_75, u225_76, u225_77, u225_78, u225_79, u225_82, u225_83, u225_86, u225_88, u225_89, u225_92, u225_94, u225_95, u225_98, u225_101, u225_104, u225_107, u225_108, ly_kd, ly_al, ly_fv0, ly_fv1, ly_fv2, ly_fv3, ly_fv4, ly_fk, ly_ra, Option.toList, List.cons_append, List.nil_append, q_ski, q_skr, q_sku, if_true, if_false, qq, if_false, pw1, pw2, q_nor, hW, h6, c1, eq_false g1, nI_1]
            exact nx v (q_lw_no hv (no (fun y => g1 y.2.1)))
      exact inner (q_ct P 16 - p) p (by omega) (Nat.le_refl _) v hv _ h6
  exact main (q_ct P 16) 0 (by omega) 0 (.inl ⟨rfl, fun x hx => q_mvR_0 hx.1⟩) _ _ q_sku q_sku
def q_clk (P : Nat → Bool) (v k : Nat) : Int32 := q_set (fun c => P c && v.testBit (q_ct P c) && decide (q_ct P c < k)) 16
theorem q_clk_0 {P : Nat → Bool} {v : Nat} : q_clk P v 0 = 0 := q_set_0.mpr (fun c _ => by rw [decide_eq_false (by omega), Bool.and_false])
theorem q_clk_n {P : Nat → Bool} {v : Nat} : q_clk P v (q_ct P 16) = q_clo P v := q_set_cong (fun c hc => by
  cases e : P c with
  | false => rfl
  | true => rw [decide_eq_true (q_ct_lt hc e), Bool.and_true])
theorem q_clk_s {P : Nat → Bool} {v a : Nat} (ha : a < 16) (Pa : P a = true) : q_clk P v (q_ct P a + 1) = q_clk P v (q_ct P a) ||| (if v.testBit (q_ct P a) = true then (1 : Int32) <<< (nI a &&& 31) else 0) := (q_set_eq (by omega) (fun i hi => by
  rw [b_or, show q_clk P v (q_ct P a) = q_set _ 16 from rfl, q_set_bt 16 (by omega) i hi]
  by_cases z : i = a
  · subst z
    rw [Pa, decide_eq_true ha, decide_eq_true (Nat.lt_succ_self _)]
    by_cases g : v.testBit (q_ct P i) = true
    · rw [if_pos g, b_sh1 (by omega) hi, g]; simp
    · rw [if_neg g, b_0]
      have : v.testBit (q_ct P i) = false := by simpa using g
      rw [this]; simp
  · have b0 : bt (if v.testBit (q_ct P a) = true then (1 : Int32) <<< (nI a &&& 31) else 0) i = false := by
      split
      · rw [b_sh1 (by omega) hi, decide_eq_false z]
      · exact b_0 i
    rw [b0, Bool.or_false]
    cases e : P i with
    | false => rfl
    | true =>
      have ne : q_ct P i ≠ q_ct P a := fun y => z (q_ct_in e Pa y)
      have : (q_ct P i < q_ct P a + 1) ↔ q_ct P i < q_ct P a := by omega
      rw [decide_eq_decide.mpr this])).symm
set_option maxHeartbeats 1000000 in
theorem m_game {d : Nat} {R : gR} {μ : gM} {P : Nat → Bool} {f : Nat → Nat} {w : Int32} (eP : (fun c => decide (0 < μ 84 (5 + c))) = P) (h10 : q_ct P 16 ≤ 10) (hw : ∀ s, s < 2 ^ q_ct P 16 → q_wn P f s) (hin : 0 ≤ w ∧ w ≤ 1) (h : ∀ μ', (∀ o, o ≠ 95 → o ≠ 96 → μ' o = μ o) → if w = 0 then R (some (.int (if f (2 ^ q_ct P 16 - 1) = 0 then 0 else 1))) μ' else if f (2 ^ q_ct P 16 - 1) = 0 then R (some (.int (-1000000002))) (gc_up μ' 87 2 (μ' 87 2 + 1)) else R (some (.int (q_clo P (f (2 ^ q_ct P 16 - 1))))) μ') : gc_S (d + 3) 226 [.ref 83, .int w] μ R := by
  have hN : 2 ^ q_ct P 16 ≤ 2 ^ 10 := Nat.pow_le_pow_right (by decide) h10
  have hN0 : 0 < 2 ^ q_ct P 16 := Nat.pow_pos (by decide)
  have e1 : nI (2 ^ q_ct P 16) - 1 = nI (2 ^ q_ct P 16 - 1) := by
    have := nI_pred (2 ^ q_ct P 16 - 1)
    rw [show 2 ^ q_ct P 16 - 1 + 1 = 2 ^ q_ct P 16 by omega] at this
    exact this
  have epw := q_pw (q_ct P 16) (by omega)
  have g10 : nI (q_ct P 16) ≤ 10 := (show nI (q_ct P 16) ≤ nI 10 from nI_le h10 (by omega))
  simp only [s226, u226_0, u226_1, u226_2, u226_3, u226_4, u226_7, u226_10, u226_11, u226_12, u226_15, u226_16, u226_17, u226_20, u226_21, u226_22, u226_25, u226_26, u226_27, u226_29, u226_32, u226_33, u226_34, u226_37, u226_38, u226_39, u226_41, u226_42, u226_46, u226_48, u226_51, u226_52, u226_54, u226_55, u226_56, u226_57, u226_58, u226_61, u226_62, u226_65, u226_67, u226_69, u226_70, u226_73, u226_76, u226_79, u226_80, u226_84, u226_85, u226_86, u226_87, u226_90, u226_91, u226_94, u226_96, u226_97, u226_99, u226_100, u226_103, u226_104, u226_107, u226_110, u226_111, u226_114, u226_115, u226_116, u226_117, u226_118, u226_119, u226_120, u226_122, u226_123, u226_125, u226_126, u226_130, u226_131, u226_134, u226_136, u226_138, u226_140, u226_141, u226_142, u226_143, u226_144, u226_147, u226_148, u226_149, u226_152, u226_154, u226_155, u226_156, u226_159, u226_160, u226_161, u226_163, u226_166, u226_169, u226_170, u226_173, u226_175, u226_178, u226_179, u226_182, u226_183, u226_186, u226_188, u226_191, u226_192, u226_193, u226_196, u226_199, u226_201, ly_kd, ly_al, ly_fv0, ly_fv1, ly_fv2, ly_fv3, ly_fv4, ly_fk, ly_ra, Option.toList, List.cons_append, List.nil_append, q_ski, q_skr, q_sku, if_true, if_false, m_in, m_isCell, m_isMourner, m_isKm, m_isSheet, m_f1, m_f2, m_f3, m_f4, m_f5, q_b0, q_not, and_self, q_wl0, q_wl1, q_wl48, q_wu1, q_wu2, q_wu3, q_wu5, q_wu6, q_wu7, q_wu8, q_wu15, q_wu30, q_wu40, q_wu57, q_wu60, q_wu69, q_wu99, q_wu1584, fa_wide_le, q_up_o (show (84 : Nat) ≠ 79 by decide), hin, m_wetCells, eP, m_ones, q_ones 16 (show 16 ≤ 16 by omega), g10]
  have fin : ∀ m k, k + m = q_ct P 16 → ∀ μ2, (∀ o, o ≠ 95 → o ≠ 96 → μ2 o = μ o) → (∀ c, c < 16 → P c = true → μ2 95 (q_ct P c) = nI c) → gc_W (gc_S (d+2)) cX12_game 12 0 R 128 [.ref 83, .int w, .int (q_set P 16), .int (nI (q_ct P 16)), .int (nI (q_ct P 16)), .int (nI (f (2 ^ q_ct P 16 - 1))), .int (q_clk P (f (2 ^ q_ct P 16 - 1)) k), .int (nI k)] [] μ2 := by
    intro m
    induction m with
    | zero =>
      intro k hk μ2 f2 hc
      have hk : k = q_ct P 16 := hk
      subst hk
      have wn := hw (2 ^ q_ct P 16 - 1) (by omega)
      have lt := q_wn_lt h10 wn
      have h := h μ2 f2
      refine (u226_128).mpr ?_
      rw [q_clk_n]
      by_cases w0 : w = 0
      · rw [if_pos w0] at h
        by_cases z : f (2 ^ q_ct P 16 - 1) = 0
        · rw [if_pos z] at h
          simp only [u226_0, u226_1, u226_2, u226_3, u226_4, u226_7, u226_10, u226_11, u226_12, u226_15, u226_16, u226_17, u226_20, u226_21, u226_22, u226_25, u226_26, u226_27, u226_29, u226_32, u226_33, u226_34, u226_37, u226_38, u226_39, u226_41, u226_42, u226_46, u226_48, u226_51, u226_52, u226_54, u226_55, u226_56, u226_57, u226_58, u226_61, u226_62, u226_65, u226_67, u226_69, u226_70, u226_73, u226_76, u226_79, u226_80, u226_84, u226_85, u226_86, u226_87, u226_90, u226_91, u226_94, u226_96, u226_97, u226_99, u226_100, u226_103, u226_104, u226_107, u226_110, u226_111, u226_114, u226_115, u226_116, u226_117, u226_118, u226_119, u226_120, u226_122, u226_123, u226_125, u226_126, u226_130, u226_131, u226_134, u226_136, u226_138, u226_140, u226_141, u226_142, u226_143, u226_144, u226_147, u226_148, u226_149, u226_152, u226_154, u226_155, u226_156, u226_159, u226_160, u226_161, u226_163, u226_166, u226_169, u226_170, u226_173, u226_175, u226_178, u226_179, u226_182, u226_183, u226_186, u226_188, u226_191, u226_192, u226_193, u226_196, u226_199, u226_201, ly_kd, ly_al, ly_fv0, ly_fv1, ly_fv2, ly_fv3, ly_fv4, ly_fk, ly_ra, Option.toList, List.cons_append, List.nil_append, q_ski, q_skr, q_sku, if_true, if_false, show nI (q_ct P 16) ≤ nI (q_ct P 16) from Int32.le_refl _, w0, z, show nI 0 ≤ 0 by decide]
          exact h
        · rw [if_neg z] at h
          simp only [u226_0, u226_1, u226_2, u226_3, u226_4, u226_7, u226_10, u226_11, u226_12, u226_15, u226_16, u226_17, u226_20, u226_21, u226_22, u226_25, u226_26, u226_27, u226_29, u226_32, u226_33, u226_34, u226_37, u226_38, u226_39, u226_41, u226_42, u226_46, u226_48, u226_51, u226_52, u226_54, u226_55, u226_56, u226_57, u226_58, u226_61, u226_62, u226_65, u226_67, u226_69, u226_70, u226_73, u226_76, u226_79, u226_80, u226_84, u226_85, u226_86, u226_87, u226_90, u226_91, u226_94, u226_96, u226_97, u226_99, u226_100, u226_103, u226_104, u226_107, u226_110, u226_111, u226_114, u226_115, u226_116, u226_117, u226_118, u226_119, u226_120, u226_122, u226_123, u226_125, u226_126, u226_130, u226_131, u226_134, u226_136, u226_138, u226_140, u226_141, u226_142, u226_143, u226_144, u226_147, u226_148, u226_149, u226_152, u226_154, u226_155, u226_156, u226_159, u226_160, u226_161, u226_163, u226_166, u226_169, u226_170, u226_173, u226_175, u226_178, u226_179, u226_182, u226_183, u226_186, u226_188, u226_191, u226_192, u226_193, u226_196, u226_199, u226_201, ly_kd, ly_al, ly_fv0, ly_fv1, ly_fv2, ly_fv3, ly_fv4, ly_fk, ly_ra, Option.toList, List.cons_append, List.nil_append, q_ski, q_skr, q_sku, if_true, if_false, show nI (q_ct P 16) ≤ nI (q_ct P 16) from Int32.le_refl _, w0, show ¬ nI (f (2 ^ q_ct P 16 - 1)) ≤ 0 from (show ¬ nI (f (2 ^ q_ct P 16 - 1)) ≤ nI 0 from nI_ge (by omega) (by omega))]
          exact h
      · rw [if_neg w0] at h
        by_cases z : f (2 ^ q_ct P 16 - 1) = 0
        · rw [if_pos z] at h
          simp only [u226_0, u226_1, u226_2, u226_3, u226_4, u226_7, u226_10, u226_11, u226_12, u226_15, u226_16, u226_17, u226_20, u226_21, u226_22, u226_25, u226_26, u226_27, u226_29, u226_32, u226_33, u226_34, u226_37, u226_38, u226_39, u226_41, u226_42, u226_46, u226_48, u226_51, u226_52, u226_54, u226_55, u226_56, u226_57, u226_58, u226_61, u226_62, u226_65, u226_67, u226_69, u226_70, u226_73, u226_76, u226_79, u226_80, u226_84, u226_85, u226_86, u226_87, u226_90, u226_91, u226_94, u226_96, u226_97, u226_99, u226_100, u226_103, u226_104, u226_107, u226_110, u226_111, u226_114, u226_115, u226_116, u226_117, u226_118, u226_119, u226_120, u226_122, u226_123, u226_125, u226_126, u226_130, u226_131, u226_134, u226_136, u226_138, u226_140, u226_141, u226_142, u226_143, u226_144, u226_147, u226_148, u226_149, u226_152, u226_154, u226_155, u226_156, u226_159, u226_160, u226_161, u226_163, u226_166, u226_169, u226_170, u226_173, u226_175, u226_178, u226_179, u226_182, u226_183, u226_186, u226_188, u226_191, u226_192, u226_193, u226_196, u226_199, u226_201, ly_kd, ly_al, ly_fv0, ly_fv1, ly_fv2, ly_fv3, ly_fv4, ly_fk, ly_ra, Option.toList, List.cons_append, List.nil_append, q_ski, q_skr, q_sku, if_true, if_false, show nI (q_ct P 16) ≤ nI (q_ct P 16) from Int32.le_refl _, w0, z, show nI 0 = 0 from rfl, m_f2]
          exact h
        · rw [if_neg z] at h
          simp only [u226_0, u226_1, u226_2, u226_3, u226_4, u226_7, u226_10, u226_11, u226_12, u226_15, u226_16, u226_17, u226_20, u226_21, u226_22, u226_25, u226_26, u226_27, u226_29, u226_32, u226_33, u226_34, u226_37, u226_38, u226_39, u226_41, u226_42, u226_46, u226_48, u226_51, u226_52, u226_54, u226_55, u226_56, u226_57, u226_58, u226_61, u226_62, u226_65, u226_67, u226_69, u226_70, u226_73, u226_76, u226_79, u226_80, u226_84, u226_85, u226_86, u226_87, u226_90, u226_91, u226_94, u226_96, u226_97, u226_99, u226_100, u226_103, u226_104, u226_107, u226_110, u226_111, u226_114, u226_115, u226_116, u226_117, u226_118, u226_119, u226_120, u226_122, u226_123, u226_125, u226_126, u226_130, u226_131, u226_134, u226_136, u226_138, u226_140, u226_141, u226_142, u226_143, u226_144, u226_147, u226_148, u226_149, u226_152, u226_154, u226_155, u226_156, u226_159, u226_160, u226_161, u226_163, u226_166, u226_169, u226_170, u226_173, u226_175, u226_178, u226_179, u226_182, u226_183, u226_186, u226_188, u226_191, u226_192, u226_193, u226_196, u226_199, u226_201, ly_kd, ly_al, ly_fv0, ly_fv1, ly_fv2, ly_fv3, ly_fv4, ly_fk, ly_ra, Option.toList, List.cons_append, List.nil_append, q_ski, q_skr, q_sku, if_true, if_false, show nI (q_ct P 16) ≤ nI (q_ct P 16) from Int32.le_refl _, w0, show ¬ nI (f (2 ^ q_ct P 16 - 1)) = 0 from fun y => z ((nI_eq (a := f (2 ^ q_ct P 16 - 1)) (b := 0) (by omega) (by omega)).mp y)]
          exact h
    | succ m ih =>
      intro k hk μ2 f2 hc
      have kn : k < q_ct P 16 := by omega
      obtain ⟨a, a16, Pa, ea⟩ := q_ct_on 16 k kn
      have ih := ih (k + 1) (by omega) μ2 f2 hc
      have st := q_clk_s (v := f (2 ^ q_ct P 16 - 1)) a16 Pa
      rw [ea] at st
      rw [st] at ih
      have ca : μ2 95 k = nI a := by rw [← ea]; exact hc a a16 Pa
      refine (u226_128).mpr ?_
      by_cases g : (f (2 ^ q_ct P 16 - 1)).testBit k = true
      · rw [if_pos g] at ih
        simp only [u226_0, u226_1, u226_2, u226_3, u226_4, u226_7, u226_10, u226_11, u226_12, u226_15, u226_16, u226_17, u226_20, u226_21, u226_22, u226_25, u226_26, u226_27, u226_29, u226_32, u226_33, u226_34, u226_37, u226_38, u226_39, u226_41, u226_42, u226_46, u226_48, u226_51, u226_52, u226_54, u226_55, u226_56, u226_57, u226_58, u226_61, u226_62, u226_65, u226_67, u226_69, u226_70, u226_73, u226_76, u226_79, u226_80, u226_84, u226_85, u226_86, u226_87, u226_90, u226_91, u226_94, u226_96, u226_97, u226_99, u226_100, u226_103, u226_104, u226_107, u226_110, u226_111, u226_114, u226_115, u226_116, u226_117, u226_118, u226_119, u226_120, u226_122, u226_123, u226_125, u226_126, u226_130, u226_131, u226_134, u226_136, u226_138, u226_140, u226_141, u226_142, u226_143, u226_144, u226_147, u226_148, u226_149, u226_152, u226_154, u226_155, u226_156, u226_159, u226_160, u226_161, u226_163, u226_166, u226_169, u226_170, u226_173, u226_175, u226_178, u226_179, u226_182, u226_183, u226_186, u226_188, u226_191, u226_192, u226_193, u226_196, u226_199, u226_201, ly_kd, ly_al, ly_fv0, ly_fv1, ly_fv2, ly_fv3, ly_fv4, ly_fk, ly_ra, Option.toList, List.cons_append, List.nil_append, q_ski, q_skr, q_sku, if_true, if_false, show ¬ nI (q_ct P 16) ≤ nI k from nI_ge kn (by omega), if_false, q_isn (show k < 32 by omega), g, vp_in_nI (show k < 10 by omega) (by decide), nI_clamp (show k < 2 ^ 31 by omega), true_and, ca, nI_1]
        exact ih
      · rw [if_neg g] at ih
        simp only [u226_0, u226_1, u226_2, u226_3, u226_4, u226_7, u226_10, u226_11, u226_12, u226_15, u226_16, u226_17, u226_20, u226_21, u226_22, u226_25, u226_26, u226_27, u226_29, u226_32, u226_33, u226_34, u226_37, u226_38, u226_39, u226_41, u226_42, u226_46, u226_48, u226_51, u226_52, u226_54, u226_55, u226_56, u226_57, u226_58, u226_61, u226_62, u226_65, u226_67, u226_69, u226_70, u226_73, u226_76, u226_79, u226_80, u226_84, u226_85, u226_86, u226_87, u226_90, u226_91, u226_94, u226_96, u226_97, u226_99, u226_100, u226_103, u226_104, u226_107, u226_110, u226_111, u226_114, u226_115, u226_116, u226_117, u226_118, u226_119, u226_120, u226_122, u226_123, u226_125, u226_126, u226_130, u226_131, u226_134, u226_136, u226_138, u226_140, u226_141, u226_142, u226_143, u226_144, u226_147, u226_148, u226_149, u226_152, u226_154, u226_155, u226_156, u226_159, u226_160, u226_161, u226_163, u226_166, u226_169, u226_170, u226_173, u226_175, u226_178, u226_179, u226_182, u226_183, u226_186, u226_188, u226_191, u226_192, u226_193, u226_196, u226_199, u226_201, ly_kd, ly_al, ly_fv0, ly_fv1, ly_fv2, ly_fv3, ly_fv4, ly_fk, ly_ra, Option.toList, List.cons_append, List.nil_append, q_ski, q_skr, q_sku, if_true, if_false, show ¬ nI (q_ct P 16) ≤ nI k from nI_ge kn (by omega), if_false, q_isn (show k < 32 by omega), eq_false g, nI_1]
        exact ih
  have mid : ∀ m s, s + m = 2 ^ q_ct P 16 → ∀ μ2, (∀ o, o ≠ 95 → o ≠ 96 → μ2 o = μ o) → (∀ c, c < 16 → P c = true → μ2 95 (q_ct P c) = nI c) → (∀ j, j < s → μ2 96 j = nI (f j)) → ∀ l6 l7, gc_sk l6 = true → gc_sk l7 = true → gc_W (gc_S (d+2)) cX12_game 12 0 R 82 [.ref 83, .int w, .int (q_set P 16), .int (nI (q_ct P 16)), .int (nI (q_ct P 16)), .int (nI s), l6, l7] [] μ2 := by
    intro m
    induction m with
    | zero =>
      intro s hs μ2 f2 hc hf l6 l7 h6 h7
      have hs : s = 2 ^ q_ct P 16 := hs
      subst hs
      refine (u226_82).mpr ?_
      simp only [u226_0, u226_1, u226_2, u226_3, u226_4, u226_7, u226_10, u226_11, u226_12, u226_15, u226_16, u226_17, u226_20, u226_21, u226_22, u226_25, u226_26, u226_27, u226_29, u226_32, u226_33, u226_34, u226_37, u226_38, u226_39, u226_41, u226_42, u226_46, u226_48, u226_51, u226_52, u226_54, u226_55, u226_56, u226_57, u226_58, u226_61, u226_62, u226_65, u226_67, u226_69, u226_70, u226_73, u226_76, u226_79, u226_80, u226_84, u226_85, u226_86, u226_87, u226_90, u226_91, u226_94, u226_96, u226_97, u226_99, u226_100, u226_103, u226_104, u226_107, u226_110, u226_111, u226_114, u226_115, u226_116, u226_117, u226_118, u226_119, u226_120, u226_122, u226_123, u226_125, u226_126, u226_130, u226_131, u226_134, u226_136, u226_138, u226_140, u226_141, u226_142, u226_143, u226_144, u226_147, u226_148, u226_149, u226_152, u226_154, u226_155, u226_156, u226_159, u226_160, u226_161, u226_163, u226_166, u226_169, u226_170, u226_173, u226_175, u226_178, u226_179, u226_182, u226_183, u226_186, u226_188, u226_191, u226_192, u226_193, u226_196, u226_199, u226_201, ly_kd, ly_al, ly_fv0, ly_fv1, ly_fv2, ly_fv3, ly_fv4, ly_fk, ly_ra, Option.toList, List.cons_append, List.nil_append, q_ski, q_skr, q_sku, if_true, if_false, epw, show nI (2 ^ q_ct P 16) ≤ nI (2 ^ q_ct P 16) from Int32.le_refl _, e1, vp_in_nI (show 2 ^ q_ct P 16 - 1 < 1024 by omega) (by decide), nI_clamp (show 2 ^ q_ct P 16 - 1 < 2 ^ 31 by omega), true_and, hf (2 ^ q_ct P 16 - 1) (by omega), h6, h7]
      have := fin (q_ct P 16) 0 (by omega) μ2 f2 hc
      rw [q_clk_0] at this
      exact this
    | succ m ih =>
      intro s hs μ2 f2 hc hf l6 l7 h6 h7
      refine (u226_82).mpr ?_
      simp only [u226_0, u226_1, u226_2, u226_3, u226_4, u226_7, u226_10, u226_11, u226_12, u226_15, u226_16, u226_17, u226_20, u226_21, u226_22, u226_25, u226_26, u226_27, u226_29, u226_32, u226_33, u226_34, u226_37, u226_38, u226_39, u226_41, u226_42, u226_46, u226_48, u226_51, u226_52, u226_54, u226_55, u226_56, u226_57, u226_58, u226_61, u226_62, u226_65, u226_67, u226_69, u226_70, u226_73, u226_76, u226_79, u226_80, u226_84, u226_85, u226_86, u226_87, u226_90, u226_91, u226_94, u226_96, u226_97, u226_99, u226_100, u226_103, u226_104, u226_107, u226_110, u226_111, u226_114, u226_115, u226_116, u226_117, u226_118, u226_119, u226_120, u226_122, u226_123, u226_125, u226_126, u226_130, u226_131, u226_134, u226_136, u226_138, u226_140, u226_141, u226_142, u226_143, u226_144, u226_147, u226_148, u226_149, u226_152, u226_154, u226_155, u226_156, u226_159, u226_160, u226_161, u226_163, u226_166, u226_169, u226_170, u226_173, u226_175, u226_178, u226_179, u226_182, u226_183, u226_186, u226_188, u226_191, u226_192, u226_193, u226_196, u226_199, u226_201, ly_kd, ly_al, ly_fv0, ly_fv1, ly_fv2, ly_fv3, ly_fv4, ly_fk, ly_ra, Option.toList, List.cons_append, List.nil_append, q_ski, q_skr, q_sku, if_true, if_false, epw, show ¬ nI (2 ^ q_ct P 16) ≤ nI s from nI_ge (by omega) (by omega), if_false]
      refine m_winsBy h10 hc (by omega) hf (fun j hj => hw j (by omega)) ?_
      simp only [u226_0, u226_1, u226_2, u226_3, u226_4, u226_7, u226_10, u226_11, u226_12, u226_15, u226_16, u226_17, u226_20, u226_21, u226_22, u226_25, u226_26, u226_27, u226_29, u226_32, u226_33, u226_34, u226_37, u226_38, u226_39, u226_41, u226_42, u226_46, u226_48, u226_51, u226_52, u226_54, u226_55, u226_56, u226_57, u226_58, u226_61, u226_62, u226_65, u226_67, u226_69, u226_70, u226_73, u226_76, u226_79, u226_80, u226_84, u226_85, u226_86, u226_87, u226_90, u226_91, u226_94, u226_96, u226_97, u226_99, u226_100, u226_103, u226_104, u226_107, u226_110, u226_111, u226_114, u226_115, u226_116, u226_117, u226_118, u226_119, u226_120, u226_122, u226_123, u226_125, u226_126, u226_130, u226_131, u226_134, u226_136, u226_138, u226_140, u226_141, u226_142, u226_143, u226_144, u226_147, u226_148, u226_149, u226_152, u226_154, u226_155, u226_156, u226_159, u226_160, u226_161, u226_163, u226_166, u226_169, u226_170, u226_173, u226_175, u226_178, u226_179, u226_182, u226_183, u226_186, u226_188, u226_191, u226_192, u226_193, u226_196, u226_199, u226_201, ly_kd, ly_al, ly_fv0, ly_fv1, ly_fv2, ly_fv3, ly_fv4, ly_fk, ly_ra, Option.toList, List.cons_append, List.nil_append, q_ski, q_skr, q_sku, if_true, if_false, vp_in_nI (show s < 1024 by omega) (by decide), nI_clamp (show s < 2 ^ 31 by omega), true_and, nI_1]
      refine ih (s + 1) (by omega) _ (fun o a b => by rw [gc_up_ne b]; exact f2 o a b) (fun c x y => by rw [q_up_o (by omega)]; exact hc c x y) (fun j hj => ?_) _ _ h6 h7
      by_cases y : j = s
      · subst y; exact q_up_same
      · rw [q_up_j y]; exact hf j (by omega)
  have fst : ∀ m c, c + m = 16 → ∀ μ2, (∀ o, o ≠ 95 → o ≠ 96 → μ2 o = μ o) → (∀ j, j < c → P j = true → μ2 95 (q_ct P j) = nI j) → ∀ l6 l7, gc_sk l6 = true → gc_sk l7 = true → gc_W (gc_S (d+2)) cX12_game 12 0 R 44 [.ref 83, .int w, .int (q_set P 16), .int (nI (q_ct P 16)), .int (nI (q_ct P c)), .int (nI c), l6, l7] [] μ2 := by
    intro m
    induction m with
    | zero =>
      intro c hc μ2 f2 h2 l6 l7 h6 h7
      obtain rfl : c = 16 := hc
      refine (u226_44).mpr ?_
      simp only [u226_0, u226_1, u226_2, u226_3, u226_4, u226_7, u226_10, u226_11, u226_12, u226_15, u226_16, u226_17, u226_20, u226_21, u226_22, u226_25, u226_26, u226_27, u226_29, u226_32, u226_33, u226_34, u226_37, u226_38, u226_39, u226_41, u226_42, u226_46, u226_48, u226_51, u226_52, u226_54, u226_55, u226_56, u226_57, u226_58, u226_61, u226_62, u226_65, u226_67, u226_69, u226_70, u226_73, u226_76, u226_79, u226_80, u226_84, u226_85, u226_86, u226_87, u226_90, u226_91, u226_94, u226_96, u226_97, u226_99, u226_100, u226_103, u226_104, u226_107, u226_110, u226_111, u226_114, u226_115, u226_116, u226_117, u226_118, u226_119, u226_120, u226_122, u226_123, u226_125, u226_126, u226_130, u226_131, u226_134, u226_136, u226_138, u226_140, u226_141, u226_142, u226_143, u226_144, u226_147, u226_148, u226_149, u226_152, u226_154, u226_155, u226_156, u226_159, u226_160, u226_161, u226_163, u226_166, u226_169, u226_170, u226_173, u226_175, u226_178, u226_179, u226_182, u226_183, u226_186, u226_188, u226_191, u226_192, u226_193, u226_196, u226_199, u226_201, ly_kd, ly_al, ly_fv0, ly_fv1, ly_fv2, ly_fv3, ly_fv4, ly_fk, ly_ra, Option.toList, List.cons_append, List.nil_append, q_ski, q_skr, q_sku, if_true, if_false, show (16 : Int32) ≤ nI 16 by decide]
      exact mid (2 ^ q_ct P 16) 0 (by omega) μ2 f2 h2 (fun j hj => absurd hj (by omega)) _ _ h6 h7
    | succ m ih =>
      intro c hc μ2 f2 h2 l6 l7 h6 h7
      have c16 : c < 16 := by omega
      have up : q_ct P (c + 1) = q_ct P c + (if P c = true then 1 else 0) := rfl
      refine (u226_44).mpr ?_
      by_cases g : P c = true
      · rw [if_pos g] at up
        have pw := q_pw_lt h10 c16 g
        simp only [u226_0, u226_1, u226_2, u226_3, u226_4, u226_7, u226_10, u226_11, u226_12, u226_15, u226_16, u226_17, u226_20, u226_21, u226_22, u226_25, u226_26, u226_27, u226_29, u226_32, u226_33, u226_34, u226_37, u226_38, u226_39, u226_41, u226_42, u226_46, u226_48, u226_51, u226_52, u226_54, u226_55, u226_56, u226_57, u226_58, u226_61, u226_62, u226_65, u226_67, u226_69, u226_70, u226_73, u226_76, u226_79, u226_80, u226_84, u226_85, u226_86, u226_87, u226_90, u226_91, u226_94, u226_96, u226_97, u226_99, u226_100, u226_103, u226_104, u226_107, u226_110, u226_111, u226_114, u226_115, u226_116, u226_117, u226_118, u226_119, u226_120, u226_122, u226_123, u226_125, u226_126, u226_130, u226_131, u226_134, u226_136, u226_138, u226_140, u226_141, u226_142, u226_143, u226_144, u226_147, u226_148, u226_149, u226_152, u226_154, u226_155, u226_156, u226_159, u226_160, u226_161, u226_163, u226_166, u226_169, u226_170, u226_173, u226_175, u226_178, u226_179, u226_182, u226_183, u226_186, u226_188, u226_191, u226_192, u226_193, u226_196, u226_199, u226_201, ly_kd, ly_al, ly_fv0, ly_fv1, ly_fv2, ly_fv3, ly_fv4, ly_fk, ly_ra, Option.toList, List.cons_append, List.nil_append, q_ski, q_skr, q_sku, if_true, if_false, q_nle c16 (by decide) (show (16 : Int32) = nI 16 from rfl), if_false, q_isb c16, g, vp_in_nI (show q_ct P c < 10 by omega) (by decide), nI_clamp (show q_ct P c < 2 ^ 31 by omega), true_and, nI_1]
        rw [← up]
        refine ih (c + 1) (by omega) _ (fun o a b => by rw [gc_up_ne a]; exact f2 o a b) (fun j hj Pj => ?_) _ _ h6 h7
        by_cases y : j = c
        · subst y; exact q_up_same
        · rw [q_up_j (fun z => y (q_ct_in Pj g z))]; exact h2 j (by omega) Pj
      · rw [if_neg g] at up
        have up : q_ct P (c + 1) = q_ct P c := up
        simp only [u226_0, u226_1, u226_2, u226_3, u226_4, u226_7, u226_10, u226_11, u226_12, u226_15, u226_16, u226_17, u226_20, u226_21, u226_22, u226_25, u226_26, u226_27, u226_29, u226_32, u226_33, u226_34, u226_37, u226_38, u226_39, u226_41, u226_42, u226_46, u226_48, u226_51, u226_52, u226_54, u226_55, u226_56, u226_57, u226_58, u226_61, u226_62, u226_65, u226_67, u226_69, u226_70, u226_73, u226_76, u226_79, u226_80, u226_84, u226_85, u226_86, u226_87, u226_90, u226_91, u226_94, u226_96, u226_97, u226_99, u226_100, u226_103, u226_104, u226_107, u226_110, u226_111, u226_114, u226_115, u226_116, u226_117, u226_118, u226_119, u226_120, u226_122, u226_123, u226_125, u226_126, u226_130, u226_131, u226_134, u226_136, u226_138, u226_140, u226_141, u226_142, u226_143, u226_144, u226_147, u226_148, u226_149, u226_152, u226_154, u226_155, u226_156, u226_159, u226_160, u226_161, u226_163, u226_166, u226_169, u226_170, u226_173, u226_175, u226_178, u226_179, u226_182, u226_183, u226_186, u226_188, u226_191, u226_192, u226_193, u226_196, u226_199, u226_201, ly_kd, ly_al, ly_fv0, ly_fv1, ly_fv2, ly_fv3, ly_fv4, ly_fk, ly_ra, Option.toList, List.cons_append, List.nil_append, q_ski, q_skr, q_sku, if_true, if_false, q_nle c16 (by decide) (show (16 : Int32) = nI 16 from rfl), if_false, q_isb c16, eq_false g, nI_1]
        rw [← up]
        exact ih (c + 1) (by omega) _ f2 (fun j hj Pj => h2 j (by by_cases y : j = c; (subst y; exact absurd Pj g); omega) Pj) _ _ h6 h7
  exact fst 16 0 rfl μ (fun _ _ _ => rfl) (fun j hj => absurd hj (by omega)) _ _ q_sku q_sku
set_option maxHeartbeats 1000000 in
theorem p_game {w : Int32} : q_P 120 226 [.ref 0, .int w] [.ref 83, .int w] := by
  intro μ R I hk
  obtain ⟨ok, ⟨y, hy, hy2⟩, hR, hL⟩ := q_c31 I
  by_cases hin : 0 ≤ w ∧ w ≤ 1
  · have c16 := q_ct_le (p := fun c => decide (0 < μ 84 (5 + c))) 16
    by_cases h10 : q_ct (fun c => decide (0 < μ 84 (5 + c))) 16 ≤ 10
    · have g10 : nI (q_ct (fun c => decide (0 < μ 84 (5 + c))) 16) ≤ 10 := (show nI (q_ct (fun c => decide (0 < μ 84 (5 + c))) 16) ≤ nI 10 from nI_le h10 (by omega))
      simp only [s120, u120_0, u120_1, u120_2, u120_5, u120_8, u120_9, u120_10, u120_13, u120_14, u120_15, u120_18, u120_21, u120_22, u120_23, u120_26, u120_28, u120_31, u120_32, u120_33, u120_36, u120_37, u120_38, u120_39, u120_42, u120_43, u120_44, u120_47, u120_48, u120_51, u120_52, u120_55, u120_56, u120_57, u120_58, u120_61, u120_62, u120_63, u120_66, u120_69, u120_70, ly_kd, ly_al, ly_fv0, ly_fv1, ly_fv2, ly_fv3, ly_fv4, ly_fk, ly_ra, Option.toList, List.cons_append, List.nil_append, q_ski, q_skr, q_sku, if_true, if_false, t_upTo, t_isCell, t_isMourner, t_isKM, t_isUse, t_isSheet, t_ref1, t_ref2, t_ref3, t_ref4, t_ref5, q_b0, q_not, and_self, hin, t_wetCells q_K31, q_w0 ok hR, t_bitCount, g10]
      refine t_leastToWin h10 (fun μ1 f f1 hw => ?_)
      have fx1 : q_fx μ μ1 := fun o ho => f1 o (by unfold q_scr at ho; omega) (by unfold q_scr at ho; omega) (by unfold q_scr at ho; omega)
      have I1 := q_I_fy I fx1.fy
      have e84 : μ1 84 = μ 84 := f1 84 (by omega) (by omega) (by omega)
      have hN0 : 0 < 2 ^ q_ct (fun c => decide (0 < μ 84 (5 + c))) 16 := Nat.pow_pos (by decide)
      have cl0 := q_clo_0 (hw (2 ^ q_ct (fun c => decide (0 < μ 84 (5 + c))) 16 - 1) (by omega))
      have md : ∀ (μ3 : gM) (R2 : gR), μ3 84 = μ1 84 → (∀ μ', (∀ o, o ≠ 95 → o ≠ 96 → μ' o = μ3 o) → if w = 0 then R2 (some (.int (if f (2 ^ q_ct (fun c => decide (0 < μ 84 (5 + c))) 16 - 1) = 0 then 0 else 1))) μ' else if f (2 ^ q_ct (fun c => decide (0 < μ 84 (5 + c))) 16 - 1) = 0 then R2 (some (.int (-1000000002))) (gc_up μ' 87 2 (μ' 87 2 + 1)) else R2 (some (.int (q_clo (fun c => decide (0 < μ 84 (5 + c))) (f (2 ^ q_ct (fun c => decide (0 < μ 84 (5 + c))) 16 - 1))))) μ') → gc_S 100 226 [.ref 83, .int w] μ3 R2 := fun μ3 R2 f3 h => by
        refine m_game (f := f) ?_ h10 hw hin h
        rw [f3, e84]
      have q95 : ∀ μ3 μ2 : gM, (∀ o, o ≠ 95 → o ≠ 96 → μ2 o = μ3 o) → q_fx μ3 μ2 := fun μ3 μ2 f2 o ho => f2 o (by unfold q_scr at ho; omega) (by unfold q_scr at ho; omega)
      by_cases w0 : w = 0
      · by_cases fz : f (2 ^ q_ct (fun c => decide (0 < μ 84 (5 + c))) 16 - 1) = 0
        · have c0 := cl0.mpr fz
          simp only [u120_0, u120_1, u120_2, u120_5, u120_8, u120_9, u120_10, u120_13, u120_14, u120_15, u120_18, u120_21, u120_22, u120_23, u120_26, u120_28, u120_31, u120_32, u120_33, u120_36, u120_37, u120_38, u120_39, u120_42, u120_43, u120_44, u120_47, u120_48, u120_51, u120_52, u120_55, u120_56, u120_57, u120_58, u120_61, u120_62, u120_63, u120_66, u120_69, u120_70, ly_kd, ly_al, ly_fv0, ly_fv1, ly_fv2, ly_fv3, ly_fv4, ly_fk, ly_ra, Option.toList, List.cons_append, List.nil_append, q_ski, q_skr, q_sku, if_true, if_false, w0, c0]
          refine hk _ _ fx1.fy.hi (fun R2 hr2 => ?_)
          refine md _ _ rfl (fun μ2 f2 => ?_)
          rw [if_pos w0, if_pos fz]
          exact hr2 μ2 (q_I_fy I1 (q95 _ _ f2).fy) (q95 _ _ f2).fy.hi
        · have c0 := fun z => fz (cl0.mp z)
          simp only [u120_0, u120_1, u120_2, u120_5, u120_8, u120_9, u120_10, u120_13, u120_14, u120_15, u120_18, u120_21, u120_22, u120_23, u120_26, u120_28, u120_31, u120_32, u120_33, u120_36, u120_37, u120_38, u120_39, u120_42, u120_43, u120_44, u120_47, u120_48, u120_51, u120_52, u120_55, u120_56, u120_57, u120_58, u120_61, u120_62, u120_63, u120_66, u120_69, u120_70, ly_kd, ly_al, ly_fv0, ly_fv1, ly_fv2, ly_fv3, ly_fv4, ly_fk, ly_ra, Option.toList, List.cons_append, List.nil_append, q_ski, q_skr, q_sku, if_true, if_false, w0, eq_false c0]
          refine hk _ _ fx1.fy.hi (fun R2 hr2 => ?_)
          refine md _ _ rfl (fun μ2 f2 => ?_)
          rw [if_pos w0, if_neg fz]
          exact hr2 μ2 (q_I_fy I1 (q95 _ _ f2).fy) (q95 _ _ f2).fy.hi
      · by_cases fz : f (2 ^ q_ct (fun c => decide (0 < μ 84 (5 + c))) 16 - 1) = 0
        · have c0 := cl0.mpr fz
          simp only [u120_0, u120_1, u120_2, u120_5, u120_8, u120_9, u120_10, u120_13, u120_14, u120_15, u120_18, u120_21, u120_22, u120_23, u120_26, u120_28, u120_31, u120_32, u120_33, u120_36, u120_37, u120_38, u120_39, u120_42, u120_43, u120_44, u120_47, u120_48, u120_51, u120_52, u120_55, u120_56, u120_57, u120_58, u120_61, u120_62, u120_63, u120_66, u120_69, u120_70, ly_kd, ly_al, ly_fv0, ly_fv1, ly_fv2, ly_fv3, ly_fv4, ly_fk, ly_ra, Option.toList, List.cons_append, List.nil_append, q_ski, q_skr, q_sku, if_true, if_false, w0, c0, t_ref2]
          refine hk _ _ (q_hi_up fx1.fy.hi (by omega)) (fun R2 hr2 => ?_)
          refine md _ _ (gc_up_ne (by omega)) (fun μ2 f2 => ?_)
          rw [if_neg w0, if_pos fz]
          exact q_P_ref I1 (by omega) q_fx.rf.fy (q95 _ _ f2).fy hr2
        · have c0 := fun z => fz (cl0.mp z)
          simp only [u120_0, u120_1, u120_2, u120_5, u120_8, u120_9, u120_10, u120_13, u120_14, u120_15, u120_18, u120_21, u120_22, u120_23, u120_26, u120_28, u120_31, u120_32, u120_33, u120_36, u120_37, u120_38, u120_39, u120_42, u120_43, u120_44, u120_47, u120_48, u120_51, u120_52, u120_55, u120_56, u120_57, u120_58, u120_61, u120_62, u120_63, u120_66, u120_69, u120_70, ly_kd, ly_al, ly_fv0, ly_fv1, ly_fv2, ly_fv3, ly_fv4, ly_fk, ly_ra, Option.toList, List.cons_append, List.nil_append, q_ski, q_skr, q_sku, if_true, if_false, w0, eq_false c0]
          refine hk _ _ fx1.fy.hi (fun R2 hr2 => ?_)
          refine md _ _ rfl (fun μ2 f2 => ?_)
          rw [if_neg w0, if_neg fz]
          exact hr2 μ2 (q_I_fy I1 (q95 _ _ f2).fy) (q95 _ _ f2).fy.hi
    · have g10 : ¬ nI (q_ct (fun c => decide (0 < μ 84 (5 + c))) 16) ≤ 10 := (show ¬ nI (q_ct (fun c => decide (0 < μ 84 (5 + c))) 16) ≤ nI 10 from nI_ge (by omega) (by omega))
      simp only [s120, u120_0, u120_1, u120_2, u120_5, u120_8, u120_9, u120_10, u120_13, u120_14, u120_15, u120_18, u120_21, u120_22, u120_23, u120_26, u120_28, u120_31, u120_32, u120_33, u120_36, u120_37, u120_38, u120_39, u120_42, u120_43, u120_44, u120_47, u120_48, u120_51, u120_52, u120_55, u120_56, u120_57, u120_58, u120_61, u120_62, u120_63, u120_66, u120_69, u120_70, ly_kd, ly_al, ly_fv0, ly_fv1, ly_fv2, ly_fv3, ly_fv4, ly_fk, ly_ra, Option.toList, List.cons_append, List.nil_append, q_ski, q_skr, q_sku, if_true, if_false, t_upTo, t_isCell, t_isMourner, t_isKM, t_isUse, t_isSheet, t_ref1, t_ref2, t_ref3, t_ref4, t_ref5, q_b0, q_not, and_self, hin, t_wetCells q_K31, q_w0 ok hR, t_bitCount, g10]
      refine hk _ _ (q_hi_up q_hi.rf (by omega)) (fun R2 hr2 => ?_)
      simp only [s226, u226_0, u226_1, u226_2, u226_3, u226_4, u226_7, u226_10, u226_11, u226_12, u226_15, u226_16, u226_17, u226_20, u226_21, u226_22, u226_25, u226_26, u226_27, u226_29, u226_32, u226_33, u226_34, u226_37, u226_38, u226_39, u226_41, u226_42, u226_46, u226_48, u226_51, u226_52, u226_54, u226_55, u226_56, u226_57, u226_58, u226_61, u226_62, u226_65, u226_67, u226_69, u226_70, u226_73, u226_76, u226_79, u226_80, u226_84, u226_85, u226_86, u226_87, u226_90, u226_91, u226_94, u226_96, u226_97, u226_99, u226_100, u226_103, u226_104, u226_107, u226_110, u226_111, u226_114, u226_115, u226_116, u226_117, u226_118, u226_119, u226_120, u226_122, u226_123, u226_125, u226_126, u226_130, u226_131, u226_134, u226_136, u226_138, u226_140, u226_141, u226_142, u226_143, u226_144, u226_147, u226_148, u226_149, u226_152, u226_154, u226_155, u226_156, u226_159, u226_160, u226_161, u226_163, u226_166, u226_169, u226_170, u226_173, u226_175, u226_178, u226_179, u226_182, u226_183, u226_186, u226_188, u226_191, u226_192, u226_193, u226_196, u226_199, u226_201, ly_kd, ly_al, ly_fv0, ly_fv1, ly_fv2, ly_fv3, ly_fv4, ly_fk, ly_ra, Option.toList, List.cons_append, List.nil_append, q_ski, q_skr, q_sku, if_true, if_false, m_in, m_isCell, m_isMourner, m_isKm, m_isSheet, m_f1, m_f2, m_f3, m_f4, m_f5, q_b0, q_not, and_self, q_wl0, q_wl1, q_wl48, q_wu1, q_wu2, q_wu3, q_wu5, q_wu6, q_wu7, q_wu8, q_wu15, q_wu30, q_wu40, q_wu57, q_wu60, q_wu69, q_wu99, q_wu1584, fa_wide_le, q_up_o (show (84 : Nat) ≠ 79 by decide), hin, m_wetCells, m_ones, q_ones 16 (show 16 ≤ 16 by omega), g10]
      exact q_P_ref I (by omega) q_fx.rf.fy q_fx.rf.fy hr2
  · exact (by
      simp only [s120, u120_0, u120_1, u120_2, u120_5, u120_8, u120_9, u120_10, u120_13, u120_14, u120_15, u120_18, u120_21, u120_22, u120_23, u120_26, u120_28, u120_31, u120_32, u120_33, u120_36, u120_37, u120_38, u120_39, u120_42, u120_43, u120_44, u120_47, u120_48, u120_51, u120_52, u120_55, u120_56, u120_57, u120_58, u120_61, u120_62, u120_63, u120_66, u120_69, u120_70, ly_kd, ly_al, ly_fv0, ly_fv1, ly_fv2, ly_fv3, ly_fv4, ly_fk, ly_ra, Option.toList, List.cons_append, List.nil_append, q_ski, q_skr, q_sku, if_true, if_false, t_upTo, t_isCell, t_isMourner, t_isKM, t_isUse, t_isSheet, t_ref1, t_ref2, t_ref3, t_ref4, t_ref5, q_b0, q_not, and_self, hin]
      refine hk _ _ (q_hi_up q_hi.rf (by omega)) (fun R2 hr2 => ?_)
      simp only [s226, u226_0, u226_1, u226_2, u226_3, u226_4, u226_7, u226_10, u226_11, u226_12, u226_15, u226_16, u226_17, u226_20, u226_21, u226_22, u226_25, u226_26, u226_27, u226_29, u226_32, u226_33, u226_34, u226_37, u226_38, u226_39, u226_41, u226_42, u226_46, u226_48, u226_51, u226_52, u226_54, u226_55, u226_56, u226_57, u226_58, u226_61, u226_62, u226_65, u226_67, u226_69, u226_70, u226_73, u226_76, u226_79, u226_80, u226_84, u226_85, u226_86, u226_87, u226_90, u226_91, u226_94, u226_96, u226_97, u226_99, u226_100, u226_103, u226_104, u226_107, u226_110, u226_111, u226_114, u226_115, u226_116, u226_117, u226_118, u226_119, u226_120, u226_122, u226_123, u226_125, u226_126, u226_130, u226_131, u226_134, u226_136, u226_138, u226_140, u226_141, u226_142, u226_143, u226_144, u226_147, u226_148, u226_149, u226_152, u226_154, u226_155, u226_156, u226_159, u226_160, u226_161, u226_163, u226_166, u226_169, u226_170, u226_173, u226_175, u226_178, u226_179, u226_182, u226_183, u226_186, u226_188, u226_191, u226_192, u226_193, u226_196, u226_199, u226_201, ly_kd, ly_al, ly_fv0, ly_fv1, ly_fv2, ly_fv3, ly_fv4, ly_fk, ly_ra, Option.toList, List.cons_append, List.nil_append, q_ski, q_skr, q_sku, if_true, if_false, m_in, m_isCell, m_isMourner, m_isKm, m_isSheet, m_f1, m_f2, m_f3, m_f4, m_f5, q_b0, q_not, and_self, q_wl0, q_wl1, q_wl48, q_wu1, q_wu2, q_wu3, q_wu5, q_wu6, q_wu7, q_wu8, q_wu15, q_wu30, q_wu40, q_wu57, q_wu60, q_wu69, q_wu99, q_wu1584, fa_wide_le, q_up_o (show (84 : Nat) ≠ 79 by decide), hin]
      exact q_P_ref I (by omega) q_fx.rf.fy q_fx.rf.fy hr2)
