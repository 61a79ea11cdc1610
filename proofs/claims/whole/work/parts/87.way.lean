/-! the reference: how far all cells lie -/
def q_hit (P : Nat → Bool) (w : Nat → Int32) (n c0 b : Nat) : Bool := q_any (fun c => decide (w c = nI n) && q_adj c b) c0 && P b
def q_wy (P : Nat → Bool) (a : Nat) : Nat → Nat → Int32
  | 0 => fun c => if c = a then 0 else 100000
  | n + 1 => fun b => if q_wy P a n b = 100000 ∧ q_hit P (q_wy P a n) n 16 b = true then nI (n + 1) else q_wy P a n b
def q_wv (P : Nat → Bool) (w : Nat → Int32) (n c b : Nat) : Int32 := if w b = 100000 ∧ q_hit P w n c b = true then nI (n + 1) else w b
theorem q_hit_s {P : Nat → Bool} {w : Nat → Int32} {n c b : Nat} : q_hit P w n (c + 1) b = true ↔ q_hit P w n c b = true ∨ (w c = nI n ∧ q_adj c b = true ∧ P b = true) := by
  unfold q_hit
  show ((q_any (fun c => decide (w c = nI n) && q_adj c b) c || (decide (w c = nI n) && q_adj c b)) && P b) = true ↔ _
  simp only [Bool.and_eq_true, Bool.or_eq_true, decide_eq_true_eq]
  constructor
  · rintro ⟨h | ⟨h1, h2⟩, h3⟩
    · exact Or.inl ⟨h, h3⟩
    · exact Or.inr ⟨h1, h2, h3⟩
  · rintro (⟨h, h3⟩ | ⟨h1, h2, h3⟩)
    · exact ⟨Or.inl h, h3⟩
    · exact ⟨Or.inr ⟨h1, h2⟩, h3⟩
theorem q_far {n : Nat} (h : n < 100) : ¬ nI n = 100000 := fun z => by
  have := (nI_eq (show n < 2 ^ 31 by omega) (show 100000 < 2 ^ 31 by omega)).mp z
  omega
theorem q_wv_far {P : Nat → Bool} {w : Nat → Int32} {n c b : Nat} (h : n < 50) : q_wv P w n c b = 100000 ↔ w b = 100000 ∧ ¬ q_hit P w n c b = true := by
  unfold q_wv
  by_cases h1 : w b = 100000 ∧ q_hit P w n c b = true
  · rw [if_pos h1]
    exact ⟨fun z => absurd z (q_far (by omega)), fun z => absurd h1.2 z.2⟩
  · rw [if_neg h1]
    exact ⟨fun z => ⟨z, fun y => h1 ⟨z, y⟩⟩, fun z => z.1⟩
theorem q_wv_n {P : Nat → Bool} {w : Nat → Int32} {n c b : Nat} (h : n < 50) : q_wv P w n c b = nI n ↔ w b = nI n := by
  unfold q_wv
  by_cases h1 : w b = 100000 ∧ q_hit P w n c b = true
  · rw [if_pos h1]
    refine ⟨fun z => ?_, fun z => ?_⟩
    · have := (nI_eq (show n + 1 < 2 ^ 31 by omega) (show n < 2 ^ 31 by omega)).mp z
      omega
    · exact absurd (z.symm.trans h1.1) (q_far (by omega))
  · rw [if_neg h1]
set_option maxHeartbeats 1000000 in
theorem m_measures {d : Nat} {R : gR} {μ : gM} {P : Nat → Bool} {a : Nat} (ha : a < 16) (h : ∀ μ', (∀ o, o ≠ 94 → μ' o = μ o) → (∀ c, c < 16 → μ' 94 c = q_wy P a 16 c) → R none μ') : gc_S (d + 2) 219 [.ref 83, .int (nI a), .int (q_set P 16)] μ R := by
  have t16 : (16 : Int32) = nI 16 := rfl
  simp only [s219, u219_0, u219_1, u219_3, u219_5, u219_8, u219_9, u219_12, u219_13, u219_14, u219_15, u219_18, u219_19, u219_22, u219_25, u219_26, u219_29, u219_32, u219_33, u219_35, u219_37, u219_40, u219_41, u219_45, u219_47, u219_50, u219_51, u219_55, u219_57, u219_60, u219_61, u219_64, u219_66, u219_67, u219_68, u219_71, u219_73, u219_75, u219_78, u219_81, u219_82, u219_84, u219_85, u219_86, u219_87, u219_88, u219_91, u219_92, u219_95, u219_97, u219_98, u219_101, u219_104, u219_105, u219_108, u219_110, u219_111, u219_112, u219_113, u219_114, u219_117, u219_120, u219_123, u219_126, u219_129, u219_132, ly_kd, ly_al, ly_fv0, ly_fv1, ly_fv2, ly_fv3, ly_fv4, ly_fk, ly_ra, Option.toList, List.cons_append, List.nil_append, q_ski, q_skr, q_sku, if_true, if_false]
  have outer : ∀ m n, n + m = 16 → ∀ μ0 : gM, (∀ o, o ≠ 94 → μ0 o = μ o) → (∀ c, c < 16 → μ0 94 c = q_wy P a n c) → ∀ l4 l5, gc_sk l4 = true → gc_sk l5 = true → gc_W (gc_S (d+1)) cX12_measures 12 2 R 34 [.ref 83, .int (nI a), .int (q_set P 16), .int (nI n), l4, l5] [] μ0 := by
    intro m
    induction m with
    | zero =>
      intro n hn μ0 f0 w0 l4 l5 h4 h5
      obtain rfl : n = 16 := hn
      refine (u219_34).mpr ?_
      simp only [u219_0, u219_1, u219_3, u219_5, u219_8, u219_9, u219_12, u219_13, u219_14, u219_15, u219_18, u219_19, u219_22, u219_25, u219_26, u219_29, u219_32, u219_33, u219_35, u219_37, u219_40, u219_41, u219_45, u219_47, u219_50, u219_51, u219_55, u219_57, u219_60, u219_61, u219_64, u219_66, u219_67, u219_68, u219_71, u219_73, u219_75, u219_78, u219_81, u219_82, u219_84, u219_85, u219_86, u219_87, u219_88, u219_91, u219_92, u219_95, u219_97, u219_98, u219_101, u219_104, u219_105, u219_108, u219_110, u219_111, u219_112, u219_113, u219_114, u219_117, u219_120, u219_123, u219_126, u219_129, u219_132, show (16 : Int32) ≤ nI 16 by decide, if_true]
      exact h μ0 f0 w0
    | succ m ih =>
      intro n hn μ0 f0 w0 l4 l5 h4 h5
      refine (u219_34).mpr ?_
      simp only [u219_0, u219_1, u219_3, u219_5, u219_8, u219_9, u219_12, u219_13, u219_14, u219_15, u219_18, u219_19, u219_22, u219_25, u219_26, u219_29, u219_32, u219_33, u219_35, u219_37, u219_40, u219_41, u219_45, u219_47, u219_50, u219_51, u219_55, u219_57, u219_60, u219_61, u219_64, u219_66, u219_67, u219_68, u219_71, u219_73, u219_75, u219_78, u219_81, u219_82, u219_84, u219_85, u219_86, u219_87, u219_88, u219_91, u219_92, u219_95, u219_97, u219_98, u219_101, u219_104, u219_105, u219_108, u219_110, u219_111, u219_112, u219_113, u219_114, u219_117, u219_120, u219_123, u219_126, u219_129, u219_132, q_nle (show n < 16 by omega) (by decide) t16, if_false, Option.toList, List.cons_append, List.nil_append, q_ski, q_skr, q_sku, if_true, if_false, h4]
      have mid : ∀ m c, c + m = 16 → ∀ μ1 : gM, (∀ o, o ≠ 94 → μ1 o = μ o) → (∀ b, b < 16 → μ1 94 b = q_wv P (q_wy P a n) n c b) → ∀ l5, gc_sk l5 = true → gc_W (gc_S (d+1)) cX12_measures 12 2 R 43 [.ref 83, .int (nI a), .int (q_set P 16), .int (nI n), .int (nI c), l5] [] μ1 := by
        intro m
        induction m with
        | zero =>
          intro c hc μ1 f1 w1 l5 h5
          obtain rfl : c = 16 := hc
          refine (u219_43).mpr ?_
          simp only [u219_0, u219_1, u219_3, u219_5, u219_8, u219_9, u219_12, u219_13, u219_14, u219_15, u219_18, u219_19, u219_22, u219_25, u219_26, u219_29, u219_32, u219_33, u219_35, u219_37, u219_40, u219_41, u219_45, u219_47, u219_50, u219_51, u219_55, u219_57, u219_60, u219_61, u219_64, u219_66, u219_67, u219_68, u219_71, u219_73, u219_75, u219_78, u219_81, u219_82, u219_84, u219_85, u219_86, u219_87, u219_88, u219_91, u219_92, u219_95, u219_97, u219_98, u219_101, u219_104, u219_105, u219_108, u219_110, u219_111, u219_112, u219_113, u219_114, u219_117, u219_120, u219_123, u219_126, u219_129, u219_132, show (16 : Int32) ≤ nI 16 by decide, if_true, nI_1]
          exact ih (n + 1) (by omega) μ1 f1 (fun b hb => w1 b hb) _ _ rfl h5
        | succ m im =>
          intro c hc μ1 f1 w1 l5 h5
          have c16 : c < 16 := by omega
          have vc : vp_in (nI c) 16 := vp_in_nI c16 (by decide)
          have cc : (nI c).toNatClampNeg = c := nI_clamp (by omega)
          refine (u219_43).mpr ?_
          simp only [u219_0, u219_1, u219_3, u219_5, u219_8, u219_9, u219_12, u219_13, u219_14, u219_15, u219_18, u219_19, u219_22, u219_25, u219_26, u219_29, u219_32, u219_33, u219_35, u219_37, u219_40, u219_41, u219_45, u219_47, u219_50, u219_51, u219_55, u219_57, u219_60, u219_61, u219_64, u219_66, u219_67, u219_68, u219_71, u219_73, u219_75, u219_78, u219_81, u219_82, u219_84, u219_85, u219_86, u219_87, u219_88, u219_91, u219_92, u219_95, u219_97, u219_98, u219_101, u219_104, u219_105, u219_108, u219_110, u219_111, u219_112, u219_113, u219_114, u219_117, u219_120, u219_123, u219_126, u219_129, u219_132, q_nle c16 (by decide) t16, if_false, Option.toList, List.cons_append, List.nil_append, q_ski, q_skr, q_sku, if_true, if_false, h5]
          by_cases hw : q_wy P a n c = nI n
          · have inner : ∀ m b, b + m = 16 → ∀ μ2 : gM, (∀ o, o ≠ 94 → μ2 o = μ o) → (∀ j, j < 16 → μ2 94 j = if j < b then q_wv P (q_wy P a n) n (c + 1) j else q_wv P (q_wy P a n) n c j) → gc_W (gc_S (d+1)) cX12_measures 12 2 R 53 [.ref 83, .int (nI a), .int (q_set P 16), .int (nI n), .int (nI c), .int (nI b)] [] μ2 := by
              intro m
              induction m with
              | zero =>
                intro b hb μ2 f2 w2
                obtain rfl : b = 16 := hb
                refine (u219_53).mpr ?_
                simp only [u219_0, u219_1, u219_3, u219_5, u219_8, u219_9, u219_12, u219_13, u219_14, u219_15, u219_18, u219_19, u219_22, u219_25, u219_26, u219_29, u219_32, u219_33, u219_35, u219_37, u219_40, u219_41, u219_45, u219_47, u219_50, u219_51, u219_55, u219_57, u219_60, u219_61, u219_64, u219_66, u219_67, u219_68, u219_71, u219_73, u219_75, u219_78, u219_81, u219_82, u219_84, u219_85, u219_86, u219_87, u219_88, u219_91, u219_92, u219_95, u219_97, u219_98, u219_101, u219_104, u219_105, u219_108, u219_110, u219_111, u219_112, u219_113, u219_114, u219_117, u219_120, u219_123, u219_126, u219_129, u219_132, show (16 : Int32) ≤ nI 16 by decide, if_true, nI_1]
                exact im (c + 1) (by omega) μ2 f2 (fun j hj => by rw [w2 j hj, if_pos hj]) _ rfl
              | succ m ib =>
                intro b hb μ2 f2 w2
                have b16 : b < 16 := by omega
                have vb : vp_in (nI b) 16 := vp_in_nI b16 (by decide)
                have cb : (nI b).toNatClampNeg = b := nI_clamp (by omega)
                have ec : μ2 94 c = nI n := by
                  rw [w2 c c16]
                  split
                  · exact (q_wv_n (by omega)).mpr hw
                  · exact (q_wv_n (by omega)).mpr hw
                have eb : μ2 94 b = q_wv P (q_wy P a n) n c b := by rw [w2 b b16, if_neg (by omega)]
                have bit : (q_set P 16 >>> (nI b &&& 31)) &&& 1 = 1 ↔ P b = true := by
                  rw [q_bit1o (by omega), q_set_bt 16 (by omega) b (by omega)]; simp [b16]
                have same : ¬ (q_adj c b = true ∧ P b = true ∧ q_wv P (q_wy P a n) n c b = 100000) → q_wv P (q_wy P a n) n (c + 1) b = q_wv P (q_wy P a n) n c b := by
                  intro hn
                  unfold q_wv
                  by_cases g1 : q_wy P a n b = 100000 ∧ q_hit P (q_wy P a n) n c b = true
                  · rw [if_pos g1, if_pos ⟨g1.1, q_hit_s.mpr (Or.inl g1.2)⟩]
                  · rw [if_neg g1, if_neg]
                    rintro ⟨g2, g3⟩
                    rcases q_hit_s.mp g3 with g4 | ⟨-, g5, g6⟩
                    · exact g1 ⟨g2, g4⟩
                    · exact hn ⟨g5, g6, (q_wv_far (by omega)).mpr ⟨g2, fun z => g1 ⟨g2, z⟩⟩⟩
                have stay : q_wv P (q_wy P a n) n (c + 1) b = q_wv P (q_wy P a n) n c b → gc_W (gc_S (d+1)) cX12_measures 12 2 R 53 [.ref 83, .int (nI a), .int (q_set P 16), .int (nI n), .int (nI c), .int (nI (b + 1))] [] μ2 := fun e => by
                  refine ib (b + 1) (by omega) μ2 f2 (fun j hj => ?_)
                  rw [w2 j hj]
                  by_cases ej : j = b
                  · subst ej; rw [if_neg (by omega), if_pos (by omega), e]
                  · by_cases e2 : j < b
                    · rw [if_pos e2, if_pos (by omega)]
                    · rw [if_neg e2, if_neg (by omega)]
                refine (u219_53).mpr ?_
                by_cases g1 : q_adj c b = true
                · by_cases g2 : P b = true
                  · by_cases g3 : q_wv P (q_wy P a n) n c b = 100000
                    · simp only [u219_0, u219_1, u219_3, u219_5, u219_8, u219_9, u219_12, u219_13, u219_14, u219_15, u219_18, u219_19, u219_22, u219_25, u219_26, u219_29, u219_32, u219_33, u219_35, u219_37, u219_40, u219_41, u219_45, u219_47, u219_50, u219_51, u219_55, u219_57, u219_60, u219_61, u219_64, u219_66, u219_67, u219_68, u219_71, u219_73, u219_75, u219_78, u219_81, u219_82, u219_84, u219_85, u219_86, u219_87, u219_88, u219_91, u219_92, u219_95, u219_97, u219_98, u219_101, u219_104, u219_105, u219_108, u219_110, u219_111, u219_112, u219_113, u219_114, u219_117, u219_120, u219_123, u219_126, u219_129, u219_132, q_nle b16 (by decide) t16, if_false, ly_kd, ly_al, ly_fv0, ly_fv1, ly_fv2, ly_fv3, ly_fv4, ly_fk, ly_ra, Option.toList, List.cons_append, List.nil_append, q_ski, q_skr, q_sku, if_true, if_false, vc, cc, ec, true_and, m_isBeside c16 b16, q_b0, q_not, eq_true g1, bit, eq_true g2, vb, cb, eb, eq_true g3, nI_1]
                      refine ib (b + 1) (by omega) _ (fun o ho => by rw [gc_up_ne ho]; exact f2 o ho) (fun j hj => ?_)
                      by_cases ej : j = b
                      · subst ej
                        rw [q_up_same, if_pos (by omega)]
                        have := (q_wv_far (show n < 50 by omega)).mp g3
                        unfold q_wv
                        rw [if_pos ⟨this.1, q_hit_s.mpr (Or.inr ⟨hw, g1, g2⟩)⟩]
                      · rw [q_up_j ej, w2 j hj]
                        by_cases e2 : j < b
                        · rw [if_pos e2, if_pos (by omega)]
                        · rw [if_neg e2, if_neg (by omega)]
                    · simp only [u219_0, u219_1, u219_3, u219_5, u219_8, u219_9, u219_12, u219_13, u219_14, u219_15, u219_18, u219_19, u219_22, u219_25, u219_26, u219_29, u219_32, u219_33, u219_35, u219_37, u219_40, u219_41, u219_45, u219_47, u219_50, u219_51, u219_55, u219_57, u219_60, u219_61, u219_64, u219_66, u219_67, u219_68, u219_71, u219_73, u219_75, u219_78, u219_81, u219_82, u219_84, u219_85, u219_86, u219_87, u219_88, u219_91, u219_92, u219_95, u219_97, u219_98, u219_101, u219_104, u219_105, u219_108, u219_110, u219_111, u219_112, u219_113, u219_114, u219_117, u219_120, u219_123, u219_126, u219_129, u219_132, q_nle b16 (by decide) t16, if_false, ly_kd, ly_al, ly_fv0, ly_fv1, ly_fv2, ly_fv3, ly_fv4, ly_fk, ly_ra, Option.toList, List.cons_append, List.nil_append, q_ski, q_skr, q_sku, if_true, if_false, vc, cc, ec, true_and, m_isBeside c16 b16, q_b0, q_not, eq_true g1, bit, eq_true g2, vb, cb, eb, eq_false g3, nI_1]
                      exact stay (same (fun z => g3 z.2.2))
                  · simp only [u219_0, u219_1, u219_3, u219_5, u219_8, u219_9, u219_12, u219_13, u219_14, u219_15, u219_18, u219_19, u219_22, u219_25, u219_26, u219_29, u219_32, u219_33, u219_35, u219_37, u219_40, u219_41, u219_45, u219_47, u219_50, u219_51, u219_55, u219_57, u219_60, u219_61, u219_64, u219_66, u219_67, u219_68, u219_71, u219_73, u219_75, u219_78, u219_81, u219_82, u219_84, u219_85, u219_86, u219_87, u219_88, u219_91, u219_92, u219_95, u219_97, u219_98, u219_101, u219_104, u219_105, u219_108, u219_110, u219_111, u219_112, u219_113, u219_114, u219_117, u219_120, u219_123, u219_126, u219_129, u219_132, q_nle b16 (by decide) t16, if_false, ly_kd, ly_al, ly_fv0, ly_fv1, ly_fv2, ly_fv3, ly_fv4, ly_fk, ly_ra, Option.toList, List.cons_append, List.nil_append, q_ski, q_skr, q_sku, if_true, if_false, vc, cc, ec, true_and, m_isBeside c16 b16, q_b0, q_not, eq_true g1, bit, eq_false g2, nI_1]
                    exact stay (same (fun z => g2 z.2.1))
                · simp only [u219_0, u219_1, u219_3, u219_5, u219_8, u219_9, u219_12, u219_13, u219_14, u219_15, u219_18, u219_19, u219_22, u219_25, u219_26, u219_29, u219_32, u219_33, u219_35, u219_37, u219_40, u219_41, u219_45, u219_47, u219_50, u219_51, u219_55, u219_57, u219_60, u219_61, u219_64, u219_66, u219_67, u219_68, u219_71, u219_73, u219_75, u219_78, u219_81, u219_82, u219_84, u219_85, u219_86, u219_87, u219_88, u219_91, u219_92, u219_95, u219_97, u219_98, u219_101, u219_104, u219_105, u219_108, u219_110, u219_111, u219_112, u219_113, u219_114, u219_117, u219_120, u219_123, u219_126, u219_129, u219_132, q_nle b16 (by decide) t16, if_false, ly_kd, ly_al, ly_fv0, ly_fv1, ly_fv2, ly_fv3, ly_fv4, ly_fk, ly_ra, Option.toList, List.cons_append, List.nil_append, q_ski, q_skr, q_sku, if_true, if_false, vc, cc, ec, true_and, m_isBeside c16 b16, q_b0, q_not, eq_false g1, nI_1]
                  exact stay (same (fun z => g1 z.1))
            exact inner 16 0 rfl μ1 f1 (fun j hj => by rw [if_neg (by omega)]; exact w1 j hj)
          · have ec : ¬ μ1 94 c = nI n := fun z => hw ((q_wv_n (by omega)).mp ((w1 c c16).symm.trans z))
            refine (u219_53).mpr ?_
            simp only [u219_0, u219_1, u219_3, u219_5, u219_8, u219_9, u219_12, u219_13, u219_14, u219_15, u219_18, u219_19, u219_22, u219_25, u219_26, u219_29, u219_32, u219_33, u219_35, u219_37, u219_40, u219_41, u219_45, u219_47, u219_50, u219_51, u219_55, u219_57, u219_60, u219_61, u219_64, u219_66, u219_67, u219_68, u219_71, u219_73, u219_75, u219_78, u219_81, u219_82, u219_84, u219_85, u219_86, u219_87, u219_88, u219_91, u219_92, u219_95, u219_97, u219_98, u219_101, u219_104, u219_105, u219_108, u219_110, u219_111, u219_112, u219_113, u219_114, u219_117, u219_120, u219_123, u219_126, u219_129, u219_132, show ¬ (16 : Int32) ≤ 0 by decide, if_false, ly_kd, ly_al, ly_fv0, ly_fv1, ly_fv2, ly_fv3, ly_fv4, ly_fk, ly_ra, Option.toList, List.cons_append, List.nil_append, q_ski, q_skr, q_sku, if_true, if_false, vc, cc, ec, true_and, nI_1]
            refine im (c + 1) (by omega) μ1 f1 (fun b hb => ?_) _ rfl
            rw [w1 b hb]
            unfold q_wv
            by_cases g1 : q_wy P a n b = 100000 ∧ q_hit P (q_wy P a n) n c b = true
            · rw [if_pos g1, if_pos ⟨g1.1, q_hit_s.mpr (Or.inl g1.2)⟩]
            · rw [if_neg g1, if_neg]
              rintro ⟨g2, g3⟩
              rcases q_hit_s.mp g3 with g4 | ⟨g5, -, -⟩
              · exact g1 ⟨g2, g4⟩
              · exact hw g5
      refine mid 16 0 rfl μ0 f0 (fun b hb => ?_) _ h5
      rw [w0 b hb]
      unfold q_wv
      rw [if_neg]
      rintro ⟨-, g⟩
      have : (q_any (fun c => decide (q_wy P a n c = nI n) && q_adj c b) 0 && P b) = true := g
      cases this
  have init : ∀ m i, i + m = 16 → ∀ μ0 : gM, (∀ o, o ≠ 94 → μ0 o = μ o) → (∀ c, c < i → μ0 94 c = q_wy P a 0 c) → gc_W (gc_S (d+1)) cX12_measures 12 2 R 2 [.ref 83, .int (nI a), .int (q_set P 16), .int (nI i), .retAddr 0, .retAddr 0] [] μ0 := by
    intro m
    induction m with
    | zero =>
      intro i hi μ0 f0 w0
      obtain rfl : i = 16 := hi
      refine (u219_2).mpr ?_
      simp only [u219_0, u219_1, u219_3, u219_5, u219_8, u219_9, u219_12, u219_13, u219_14, u219_15, u219_18, u219_19, u219_22, u219_25, u219_26, u219_29, u219_32, u219_33, u219_35, u219_37, u219_40, u219_41, u219_45, u219_47, u219_50, u219_51, u219_55, u219_57, u219_60, u219_61, u219_64, u219_66, u219_67, u219_68, u219_71, u219_73, u219_75, u219_78, u219_81, u219_82, u219_84, u219_85, u219_86, u219_87, u219_88, u219_91, u219_92, u219_95, u219_97, u219_98, u219_101, u219_104, u219_105, u219_108, u219_110, u219_111, u219_112, u219_113, u219_114, u219_117, u219_120, u219_123, u219_126, u219_129, u219_132, show (16 : Int32) ≤ nI 16 by decide, if_true, Option.toList, List.cons_append, List.nil_append, q_ski, q_skr, q_sku, if_true, if_false]
      exact outer 16 0 rfl μ0 f0 w0 _ _ q_sku q_sku
    | succ m ih =>
      intro i hi μ0 f0 w0
      have i16 : i < 16 := by omega
      refine (u219_2).mpr ?_
      have nx : ∀ x : Int32, x = q_wy P a 0 i → gc_W (gc_S (d+1)) cX12_measures 12 2 R 2 [.ref 83, .int (nI a), .int (q_set P 16), .int (nI (i + 1)), .retAddr 0, .retAddr 0] [] (gc_up μ0 94 i x) := fun x hx => by
        refine ih (i + 1) (by omega) _ (fun o ho => by rw [gc_up_ne ho]; exact f0 o ho) (fun c hc => ?_)
        by_cases e : c = i
        · subst e; rw [q_up_same, hx]
        · rw [q_up_j e]; exact w0 c (by omega)
      by_cases e : i = a
      · have e' : (nI i = nI a) = True := eq_true (by rw [e])
        simp only [u219_0, u219_1, u219_3, u219_5, u219_8, u219_9, u219_12, u219_13, u219_14, u219_15, u219_18, u219_19, u219_22, u219_25, u219_26, u219_29, u219_32, u219_33, u219_35, u219_37, u219_40, u219_41, u219_45, u219_47, u219_50, u219_51, u219_55, u219_57, u219_60, u219_61, u219_64, u219_66, u219_67, u219_68, u219_71, u219_73, u219_75, u219_78, u219_81, u219_82, u219_84, u219_85, u219_86, u219_87, u219_88, u219_91, u219_92, u219_95, u219_97, u219_98, u219_101, u219_104, u219_105, u219_108, u219_110, u219_111, u219_112, u219_113, u219_114, u219_117, u219_120, u219_123, u219_126, u219_129, u219_132, q_nle i16 (by decide) t16, if_false, ly_kd, ly_al, ly_fv0, ly_fv1, ly_fv2, ly_fv3, ly_fv4, ly_fk, ly_ra, Option.toList, List.cons_append, List.nil_append, q_ski, q_skr, q_sku, if_true, if_false, e', vp_in_nI i16 (by decide), nI_clamp (show i < 2 ^ 31 by omega), true_and, nI_1]
        exact nx 0 (if_pos e).symm
      · have e' : ¬ nI i = nI a := fun z => e ((nI_eq (by omega) (by omega)).mp z)
        simp only [u219_0, u219_1, u219_3, u219_5, u219_8, u219_9, u219_12, u219_13, u219_14, u219_15, u219_18, u219_19, u219_22, u219_25, u219_26, u219_29, u219_32, u219_33, u219_35, u219_37, u219_40, u219_41, u219_45, u219_47, u219_50, u219_51, u219_55, u219_57, u219_60, u219_61, u219_64, u219_66, u219_67, u219_68, u219_71, u219_73, u219_75, u219_78, u219_81, u219_82, u219_84, u219_85, u219_86, u219_87, u219_88, u219_91, u219_92, u219_95, u219_97, u219_98, u219_101, u219_104, u219_105, u219_108, u219_110, u219_111, u219_112, u219_113, u219_114, u219_117, u219_120, u219_123, u219_126, u219_129, u219_132, q_nle i16 (by decide) t16, if_false, ly_kd, ly_al, ly_fv0, ly_fv1, ly_fv2, ly_fv3, ly_fv4, ly_fk, ly_ra, Option.toList, List.cons_append, List.nil_append, q_ski, q_skr, q_sku, if_true, if_false, e', vp_in_nI i16 (by decide), nI_clamp (show i < 2 ^ 31 by omega), true_and, nI_1]
        exact nx 100000 (if_neg e).symm
  exact init 16 0 rfl μ (fun _ _ => rfl) (fun c hc => absurd hc (by omega))
/-- how far, by who is reached when -/
theorem q_wy_rc {P : Nat → Bool} {a : Nat} (ha : a < 16) (hP : P a = true) : ∀ n, n ≤ 16 → ∀ b, b < 16 → (q_rc P a n b = true → ∃ k, k ≤ n ∧ q_wy P a n b = nI k ∧ q_rc P a k b = true ∧ ∀ j, j < k → q_rc P a j b = false) ∧ (q_rc P a n b = false → q_wy P a n b = 100000)
  | 0, _, b, hb => by
    constructor
    · intro h
      have h := of_decide_eq_true (show decide (b = a) = true from h)
      exact ⟨0, by omega, if_pos h, decide_eq_true h, fun j hj => absurd hj (by omega)⟩
    · intro h
      have h := of_decide_eq_false (show decide (b = a) = false from h)
      exact if_neg h
  | n + 1, hn, b, hb => by
    have ih := q_wy_rc ha hP n (by omega)
    obtain ⟨i1, i2⟩ := ih b hb
    have e : q_wy P a (n + 1) b = if q_wy P a n b = 100000 ∧ q_hit P (q_wy P a n) n 16 b = true then nI (n + 1) else q_wy P a n b := rfl
    have hh : q_hit P (q_wy P a n) n 16 b = true ↔ (∃ c, c < 16 ∧ q_wy P a n c = nI n ∧ q_adj c b = true) ∧ P b = true := by
      unfold q_hit
      rw [Bool.and_eq_true, q_any_iff]
      constructor
      · rintro ⟨⟨c, hc, h⟩, h2⟩
        rw [Bool.and_eq_true, decide_eq_true_eq] at h
        exact ⟨⟨c, hc, h.1, h.2⟩, h2⟩
      · rintro ⟨⟨c, hc, h, h3⟩, h2⟩
        exact ⟨⟨c, hc, by rw [decide_eq_true h, h3]; rfl⟩, h2⟩
    cases hr : q_rc P a n b with
    | true =>
      obtain ⟨k, hk, e2, e3, e4⟩ := i1 hr
      have hs := q_rc_m hP hr
      rw [e, if_neg (fun z => q_far (by omega) (e2.symm.trans z.1))]
      exact ⟨fun _ => ⟨k, by omega, e2, e3, e4⟩, fun z => by rw [hs] at z; cases z⟩
    | false =>
      have e2 := i2 hr
      have lo : ∀ j, j < n + 1 → q_rc P a j b = false := fun j hj => by
        cases hj2 : q_rc P a j b with
        | false => rfl
        | true =>
          have := q_rc_mk hP hj2 (n - j)
          rw [show j + (n - j) = n by omega, hr] at this
          cases this
      rw [e]
      constructor
      · intro hs
        obtain ⟨h1 | ⟨c, hc, h2, h3⟩, h4⟩ := q_rc_s.mp hs
        · rw [hr] at h1; cases h1
        · obtain ⟨k, hk, g1, g2, g3⟩ := (ih c hc).1 h3
          have kn : k = n := by
            by_cases z : k = n
            · exact z
            · have : q_rc P a (k + 1) b = true := q_rc_s.mpr ⟨Or.inr ⟨c, hc, h2, g2⟩, h4⟩
              rw [lo (k + 1) (by omega)] at this; cases this
          subst kn
          exact ⟨k + 1, by omega, if_pos ⟨e2, hh.mpr ⟨⟨c, hc, g1, h2⟩, h4⟩⟩, hs, lo⟩
      · intro hs
        rw [if_neg]
        · exact e2
        · rintro ⟨-, z⟩
          obtain ⟨⟨c, hc, g1, g2⟩, g3⟩ := hh.mp z
          cases hcr : q_rc P a n c with
          | false => exact q_far (by omega) (g1.symm.trans ((ih c hc).2 hcr))
          | true =>
            have : q_rc P a (n + 1) b = true := q_rc_s.mpr ⟨Or.inr ⟨c, hc, g2, hcr⟩, g3⟩
            rw [hs] at this; cases this
