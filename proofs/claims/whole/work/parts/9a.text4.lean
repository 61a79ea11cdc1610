/-! texts that are read: the class, all of it -/
theorem t_txt {A : Nat → Int32} {t u e op : Nat} {p : Nat → Nat → (Nat → Int32) → Bool × Nat × Nat × (Nat → Int32)} (hA : q_by8s A t) (h50 : t ≤ 50) (hG : q_G t p) (hp : q_TC A t u (e + 1) 61 op p) : q_TC A t u (e + 6) 64 op (q_txt A t p) := by
  have g0 := q_G_lvl hA q_sgn0 hG
  have h0 := t_product (d := e) hA h50 hG hp
  have g1 := q_G_lvl hA q_sgn1 g0
  have h1 := t_sum (d := e + 1) hA h50 g0 h0
  have g2 := q_G_cmd hA g1
  have h2 := t_compared (d := e + 2) hA h50 g1 h1
  have g3 := q_G_lvl hA q_sgn3 g2
  have h3 := t_all (d := e + 3) hA h50 g2 h2
  exact t_text (d := e + 4) hA h50 g3 h3
set_option maxHeartbeats 1000000 in
theorem t_leastS {A : Nat → Int32} {t u d op : Nat} {p : Nat → Nat → (Nat → Int32) → Bool × Nat × Nat × (Nat → Int32)} (hA : q_by8s A t) (h50 : t ≤ 50) (hu : u = 0 ∨ u = 1) (hop : op < 5) (hG : q_G t p) (hp : q_TC A t u (d + 8) 61 (op + 1) p) (hx : q_TC A t u (d + 8) 64 (op + 1) (q_txt A t p)) : q_TC A t u (d + 9) 61 op (fun pos n C => if A pos = 33 then q_bd (p (pos + 1) n C) (fun p1 n1 C1 => (true, p1, n1 + 1, upd C1 n1 20033)) else if A pos = 40 then q_bd (q_txt A t p (pos + 1) n C) (fun p1 n1 C1 => if A p1 = 41 then (true, p1 + 1, n1, C1) else (false, p1, n1, C1)) else q_bse A u pos n C) := by
  intro μ R pos n C hc hn ht h
  have o5 : ¬ (5 : Int32) ≤ nI op := (show ¬ nI 5 ≤ nI op from nI_ge hop (by omega))
  have key : ∀ x, x ≠ 33 → x ≠ 40 → A pos = x → q_po μ (q_bse A u pos n C) R := fun x h1 h2 e => by
    have h : q_po μ (if A pos = 33 then _ else if A pos = 40 then _ else q_bse A u pos n C) R := h
    rw [if_neg (by rw [e]; exact h1), if_neg (by rw [e]; exact h2)] at h
    exact h
  by_cases g : 48 ≤ A pos ∧ A pos ≤ 57
  · exact t_digit (d := d + 6) hA h50 hc hn ht g (key _ (fun z => by rw [z] at g; exact absurd g.1 (by decide)) (fun z => by rw [z] at g; exact absurd g.1 (by decide)) rfl)
  · have mid : gc_W (gc_S (d+8)) cX2_readLeast 2 1 R 23 [.ref 27, .int (nI op), .int (A pos), .retAddr 0] [] μ := by
      refine (u61_23).mpr ?_
      by_cases g1 : A pos = 33
      · have h : q_po μ (if A pos = 33 then q_bd (p (pos + 1) n C) (fun p1 n1 C1 => (true, p1, n1 + 1, upd C1 n1 20033)) else _) R := h
        rw [if_pos g1] at h
        have pt := q_in_t hA (by rw [g1]; decide)
        simp only [u61_0, u61_1, u61_4, u61_5, u61_6, u61_8, u61_11, u61_12, u61_14, u61_17, u61_18, u61_21, u61_22, u61_24, u61_26, u61_29, u61_30, u61_31, u61_34, u61_35, u61_38, u61_39, u61_40, u61_41, u61_42, u61_45, u61_46, u61_47, u61_50, u61_52, u61_55, u61_56, u61_57, u61_58, u61_60, u61_63, u61_64, u61_65, u61_68, u61_69, u61_72, u61_73, u61_74, u61_75, u61_76, u61_79, u61_82, u61_83, u61_86, u61_88, u61_91, u61_92, u61_93, u61_94, u61_97, u61_98, u61_100, u61_103, u61_104, u61_107, u61_108, u61_111, u61_112, u61_113, u61_116, u61_117, u61_118, u61_121, u61_122, u61_123, u61_124, u61_127, u61_128, u61_131, u61_132, u61_133, u61_134, u61_137, u61_138, ly_kd, ly_al, ly_fv0, ly_fv1, ly_fv2, ly_fv3, ly_fv4, ly_fk, ly_ra, Option.toList, List.cons_append, List.nil_append, q_ski, q_skr, q_sku, if_true, if_false, g1, o5, if_false, t_pass hc.2.1, nI_1]
        have gg := hG (pos + 1) n C (by omega) (by omega)
        refine hp _ _ (pos + 1) n C (q_cs_pass hc) (by omega) (by omega) (fun μ2 f2 a2 c2 m2 => ?_)
        obtain ⟨m, mm, me⟩ := m2
        have fa := q_cf_pass.tr f2
        have st2 := q_st_cf hc.1 fa
        by_cases e2 : (p (pos + 1) n C).1 = true
        · rw [q_bd_t e2] at h
          obtain ⟨c2a, c2b⟩ := c2 e2
          obtain ⟨-, g2, g3⟩ := gg
          obtain ⟨g4, g5, g6, -⟩ := g3 e2
          simp only [u61_0, u61_1, u61_4, u61_5, u61_6, u61_8, u61_11, u61_12, u61_14, u61_17, u61_18, u61_21, u61_22, u61_24, u61_26, u61_29, u61_30, u61_31, u61_34, u61_35, u61_38, u61_39, u61_40, u61_41, u61_42, u61_45, u61_46, u61_47, u61_50, u61_52, u61_55, u61_56, u61_57, u61_58, u61_60, u61_63, u61_64, u61_65, u61_68, u61_69, u61_72, u61_73, u61_74, u61_75, u61_76, u61_79, u61_82, u61_83, u61_86, u61_88, u61_91, u61_92, u61_93, u61_94, u61_97, u61_98, u61_100, u61_103, u61_104, u61_107, u61_108, u61_111, u61_112, u61_113, u61_116, u61_117, u61_118, u61_121, u61_122, u61_123, u61_124, u61_127, u61_128, u61_131, u61_132, u61_133, u61_134, u61_137, u61_138, ly_kd, ly_al, ly_fv0, ly_fv1, ly_fv2, ly_fv3, ly_fv4, ly_fk, ly_ra, Option.toList, List.cons_append, List.nil_append, q_ski, q_skr, q_sku, if_true, if_false, q_bt e2]
          refine t_add28 (show (p (pos + 1) n C).2.2.1 ≤ 50 by omega) c2a (fun μ3 f3 e27 a3 m3 => ?_)
          simp only [u61_0, u61_1, u61_4, u61_5, u61_6, u61_8, u61_11, u61_12, u61_14, u61_17, u61_18, u61_21, u61_22, u61_24, u61_26, u61_29, u61_30, u61_31, u61_34, u61_35, u61_38, u61_39, u61_40, u61_41, u61_42, u61_45, u61_46, u61_47, u61_50, u61_52, u61_55, u61_56, u61_57, u61_58, u61_60, u61_63, u61_64, u61_65, u61_68, u61_69, u61_72, u61_73, u61_74, u61_75, u61_76, u61_79, u61_82, u61_83, u61_86, u61_88, u61_91, u61_92, u61_93, u61_94, u61_97, u61_98, u61_100, u61_103, u61_104, u61_107, u61_108, u61_111, u61_112, u61_113, u61_116, u61_117, u61_118, u61_121, u61_122, u61_123, u61_124, u61_127, u61_128, u61_131, u61_132, u61_133, u61_134, u61_137, u61_138, ly_kd, ly_al, ly_fv0, ly_fv1, ly_fv2, ly_fv3, ly_fv4, ly_fk, ly_ra, Option.toList, List.cons_append, List.nil_append, q_ski, q_skr, q_sku, if_true, if_false, or_true, true_and]
          have := a3 (by omega)
          have cs := q_cs_add (z := 20033) st2 f3 (by rw [e27]; exact a2) ⟨this.1, this.2.1, this.2.2.trans (by decide)⟩ c2b
          have := h μ3 (fa.tr f3) cs.2.1 (fun _ => cs.2.2) m3
          rw [q_bt rfl] at this; exact this
        · rw [q_bd_f e2] at h
          simp only [u61_0, u61_1, u61_4, u61_5, u61_6, u61_8, u61_11, u61_12, u61_14, u61_17, u61_18, u61_21, u61_22, u61_24, u61_26, u61_29, u61_30, u61_31, u61_34, u61_35, u61_38, u61_39, u61_40, u61_41, u61_42, u61_45, u61_46, u61_47, u61_50, u61_52, u61_55, u61_56, u61_57, u61_58, u61_60, u61_63, u61_64, u61_65, u61_68, u61_69, u61_72, u61_73, u61_74, u61_75, u61_76, u61_79, u61_82, u61_83, u61_86, u61_88, u61_91, u61_92, u61_93, u61_94, u61_97, u61_98, u61_100, u61_103, u61_104, u61_107, u61_108, u61_111, u61_112, u61_113, u61_116, u61_117, u61_118, u61_121, u61_122, u61_123, u61_124, u61_127, u61_128, u61_131, u61_132, u61_133, u61_134, u61_137, u61_138, ly_kd, ly_al, ly_fv0, ly_fv1, ly_fv2, ly_fv3, ly_fv4, ly_fk, ly_ra, Option.toList, List.cons_append, List.nil_append, q_ski, q_skr, q_sku, if_true, if_false, q_bf e2]
          refine t_add28 mm me (fun μ3 f3 e27 a3 m3 => ?_)
          simp only [u61_0, u61_1, u61_4, u61_5, u61_6, u61_8, u61_11, u61_12, u61_14, u61_17, u61_18, u61_21, u61_22, u61_24, u61_26, u61_29, u61_30, u61_31, u61_34, u61_35, u61_38, u61_39, u61_40, u61_41, u61_42, u61_45, u61_46, u61_47, u61_50, u61_52, u61_55, u61_56, u61_57, u61_58, u61_60, u61_63, u61_64, u61_65, u61_68, u61_69, u61_72, u61_73, u61_74, u61_75, u61_76, u61_79, u61_82, u61_83, u61_86, u61_88, u61_91, u61_92, u61_93, u61_94, u61_97, u61_98, u61_100, u61_103, u61_104, u61_107, u61_108, u61_111, u61_112, u61_113, u61_116, u61_117, u61_118, u61_121, u61_122, u61_123, u61_124, u61_127, u61_128, u61_131, u61_132, u61_133, u61_134, u61_137, u61_138, ly_kd, ly_al, ly_fv0, ly_fv1, ly_fv2, ly_fv3, ly_fv4, ly_fk, ly_ra, Option.toList, List.cons_append, List.nil_append, q_ski, q_skr, q_sku, if_true, if_false, true_or, true_and]
          have := h μ3 (fa.tr f3) (by rw [e27]; exact a2) (fun z => absurd z e2) m3
          rw [q_bf e2] at this; exact this
      · by_cases g2 : A pos = 40
        · have h : q_po μ (if A pos = 33 then _ else if A pos = 40 then q_bd (q_txt A t p (pos + 1) n C) (fun p1 n1 C1 => if A p1 = 41 then (true, p1 + 1, n1, C1) else (false, p1, n1, C1)) else _) R := h
          rw [if_neg g1, if_pos g2] at h
          have pt := q_in_t hA (by rw [g2]; decide)
          simp only [u61_0, u61_1, u61_4, u61_5, u61_6, u61_8, u61_11, u61_12, u61_14, u61_17, u61_18, u61_21, u61_22, u61_24, u61_26, u61_29, u61_30, u61_31, u61_34, u61_35, u61_38, u61_39, u61_40, u61_41, u61_42, u61_45, u61_46, u61_47, u61_50, u61_52, u61_55, u61_56, u61_57, u61_58, u61_60, u61_63, u61_64, u61_65, u61_68, u61_69, u61_72, u61_73, u61_74, u61_75, u61_76, u61_79, u61_82, u61_83, u61_86, u61_88, u61_91, u61_92, u61_93, u61_94, u61_97, u61_98, u61_100, u61_103, u61_104, u61_107, u61_108, u61_111, u61_112, u61_113, u61_116, u61_117, u61_118, u61_121, u61_122, u61_123, u61_124, u61_127, u61_128, u61_131, u61_132, u61_133, u61_134, u61_137, u61_138, ly_kd, ly_al, ly_fv0, ly_fv1, ly_fv2, ly_fv3, ly_fv4, ly_fk, ly_ra, Option.toList, List.cons_append, List.nil_append, q_ski, q_skr, q_sku, if_true, if_false, g2, show ¬ (40 : Int32) = 33 by decide, o5, if_false, t_pass hc.2.1, nI_1]
          have gg := q_G_txt hA hG (pos + 1) n C (by omega) (by omega)
          refine hx _ _ (pos + 1) n C (q_cs_pass hc) (by omega) (by omega) (fun μ2 f2 a2 c2 m2 => ?_)
          have fa := q_cf_pass.tr f2
          have st2 := q_st_cf hc.1 fa
          by_cases e2 : (q_txt A t p (pos + 1) n C).1 = true
          · rw [q_bd_t e2] at h
            obtain ⟨c2a, c2b⟩ := c2 e2
            simp only [u61_0, u61_1, u61_4, u61_5, u61_6, u61_8, u61_11, u61_12, u61_14, u61_17, u61_18, u61_21, u61_22, u61_24, u61_26, u61_29, u61_30, u61_31, u61_34, u61_35, u61_38, u61_39, u61_40, u61_41, u61_42, u61_45, u61_46, u61_47, u61_50, u61_52, u61_55, u61_56, u61_57, u61_58, u61_60, u61_63, u61_64, u61_65, u61_68, u61_69, u61_72, u61_73, u61_74, u61_75, u61_76, u61_79, u61_82, u61_83, u61_86, u61_88, u61_91, u61_92, u61_93, u61_94, u61_97, u61_98, u61_100, u61_103, u61_104, u61_107, u61_108, u61_111, u61_112, u61_113, u61_116, u61_117, u61_118, u61_121, u61_122, u61_123, u61_124, u61_127, u61_128, u61_131, u61_132, u61_133, u61_134, u61_137, u61_138, ly_kd, ly_al, ly_fv0, ly_fv1, ly_fv2, ly_fv3, ly_fv4, ly_fk, ly_ra, Option.toList, List.cons_append, List.nil_append, q_ski, q_skr, q_sku, if_true, if_false, q_bt e2, show ¬ (1 : Int32) = 0 by decide, t_ahead hA h50 st2 a2 gg.2.1]
            by_cases g3 : A (q_txt A t p (pos + 1) n C).2.1 = 41
            · rw [if_pos g3] at h
              simp only [u61_0, u61_1, u61_4, u61_5, u61_6, u61_8, u61_11, u61_12, u61_14, u61_17, u61_18, u61_21, u61_22, u61_24, u61_26, u61_29, u61_30, u61_31, u61_34, u61_35, u61_38, u61_39, u61_40, u61_41, u61_42, u61_45, u61_46, u61_47, u61_50, u61_52, u61_55, u61_56, u61_57, u61_58, u61_60, u61_63, u61_64, u61_65, u61_68, u61_69, u61_72, u61_73, u61_74, u61_75, u61_76, u61_79, u61_82, u61_83, u61_86, u61_88, u61_91, u61_92, u61_93, u61_94, u61_97, u61_98, u61_100, u61_103, u61_104, u61_107, u61_108, u61_111, u61_112, u61_113, u61_116, u61_117, u61_118, u61_121, u61_122, u61_123, u61_124, u61_127, u61_128, u61_131, u61_132, u61_133, u61_134, u61_137, u61_138, ly_kd, ly_al, ly_fv0, ly_fv1, ly_fv2, ly_fv3, ly_fv4, ly_fk, ly_ra, Option.toList, List.cons_append, List.nil_append, q_ski, q_skr, q_sku, if_true, if_false, g3, t_pass a2, or_true, true_and]
              have := h _ (fa.tr q_cf_pass) q_up_same (fun _ => ⟨by rw [q_up_o (by omega)]; exact c2a, fun j hj => by rw [q_up_o (by omega)]; exact c2b j hj⟩) (by obtain ⟨m, mm, me⟩ := m2; exact ⟨m, mm, by rw [q_up_o (by omega)]; exact me⟩)
              rw [q_bt rfl] at this; exact this
            · rw [if_neg g3] at h
              simp only [u61_0, u61_1, u61_4, u61_5, u61_6, u61_8, u61_11, u61_12, u61_14, u61_17, u61_18, u61_21, u61_22, u61_24, u61_26, u61_29, u61_30, u61_31, u61_34, u61_35, u61_38, u61_39, u61_40, u61_41, u61_42, u61_45, u61_46, u61_47, u61_50, u61_52, u61_55, u61_56, u61_57, u61_58, u61_60, u61_63, u61_64, u61_65, u61_68, u61_69, u61_72, u61_73, u61_74, u61_75, u61_76, u61_79, u61_82, u61_83, u61_86, u61_88, u61_91, u61_92, u61_93, u61_94, u61_97, u61_98, u61_100, u61_103, u61_104, u61_107, u61_108, u61_111, u61_112, u61_113, u61_116, u61_117, u61_118, u61_121, u61_122, u61_123, u61_124, u61_127, u61_128, u61_131, u61_132, u61_133, u61_134, u61_137, u61_138, ly_kd, ly_al, ly_fv0, ly_fv1, ly_fv2, ly_fv3, ly_fv4, ly_fk, ly_ra, Option.toList, List.cons_append, List.nil_append, q_ski, q_skr, q_sku, if_true, if_false, g3, if_false, true_or, true_and]
              exact h _ fa a2 (fun z => by cases z) m2
          · rw [q_bd_f e2] at h
            simp only [u61_0, u61_1, u61_4, u61_5, u61_6, u61_8, u61_11, u61_12, u61_14, u61_17, u61_18, u61_21, u61_22, u61_24, u61_26, u61_29, u61_30, u61_31, u61_34, u61_35, u61_38, u61_39, u61_40, u61_41, u61_42, u61_45, u61_46, u61_47, u61_50, u61_52, u61_55, u61_56, u61_57, u61_58, u61_60, u61_63, u61_64, u61_65, u61_68, u61_69, u61_72, u61_73, u61_74, u61_75, u61_76, u61_79, u61_82, u61_83, u61_86, u61_88, u61_91, u61_92, u61_93, u61_94, u61_97, u61_98, u61_100, u61_103, u61_104, u61_107, u61_108, u61_111, u61_112, u61_113, u61_116, u61_117, u61_118, u61_121, u61_122, u61_123, u61_124, u61_127, u61_128, u61_131, u61_132, u61_133, u61_134, u61_137, u61_138, ly_kd, ly_al, ly_fv0, ly_fv1, ly_fv2, ly_fv3, ly_fv4, ly_fk, ly_ra, Option.toList, List.cons_append, List.nil_append, q_ski, q_skr, q_sku, if_true, if_false, q_bf e2, true_or, true_and]
            have := h _ fa a2 (fun z => absurd z e2) m2
            rw [q_bf e2] at this; exact this
        · simp only [u61_0, u61_1, u61_4, u61_5, u61_6, u61_8, u61_11, u61_12, u61_14, u61_17, u61_18, u61_21, u61_22, u61_24, u61_26, u61_29, u61_30, u61_31, u61_34, u61_35, u61_38, u61_39, u61_40, u61_41, u61_42, u61_45, u61_46, u61_47, u61_50, u61_52, u61_55, u61_56, u61_57, u61_58, u61_60, u61_63, u61_64, u61_65, u61_68, u61_69, u61_72, u61_73, u61_74, u61_75, u61_76, u61_79, u61_82, u61_83, u61_86, u61_88, u61_91, u61_92, u61_93, u61_94, u61_97, u61_98, u61_100, u61_103, u61_104, u61_107, u61_108, u61_111, u61_112, u61_113, u61_116, u61_117, u61_118, u61_121, u61_122, u61_123, u61_124, u61_127, u61_128, u61_131, u61_132, u61_133, u61_134, u61_137, u61_138, Option.toList, List.cons_append, List.nil_append, q_ski, q_skr, q_sku, if_true, if_false, g1, g2, if_false]
          exact t_leastEnd (d := d + 3) hA h50 hu hc hn ht g q_sku (key _ g1 g2 rfl)
    refine s61.mpr ?_
    by_cases g1 : A pos < 48
    · simp only [u61_0, u61_1, u61_4, u61_5, u61_6, u61_8, u61_11, u61_12, u61_14, u61_17, u61_18, u61_21, u61_22, u61_24, u61_26, u61_29, u61_30, u61_31, u61_34, u61_35, u61_38, u61_39, u61_40, u61_41, u61_42, u61_45, u61_46, u61_47, u61_50, u61_52, u61_55, u61_56, u61_57, u61_58, u61_60, u61_63, u61_64, u61_65, u61_68, u61_69, u61_72, u61_73, u61_74, u61_75, u61_76, u61_79, u61_82, u61_83, u61_86, u61_88, u61_91, u61_92, u61_93, u61_94, u61_97, u61_98, u61_99, u61_100, u61_103, u61_104, u61_107, u61_108, u61_111, u61_112, u61_113, u61_116, u61_117, u61_118, u61_121, u61_122, u61_123, u61_124, u61_127, u61_128, u61_131, u61_132, u61_133, u61_134, u61_137, u61_138, ly_kd, ly_al, ly_fv0, ly_fv1, ly_fv2, ly_fv3, ly_fv4, ly_fk, ly_ra, Option.toList, List.cons_append, List.nil_append, q_ski, q_skr, q_sku, if_true, if_false, t_ahead hA h50 hc.1 hc.2.1 ht, g1]
      exact mid
    · by_cases g2 : 57 < A pos
      · simp only [u61_0, u61_1, u61_4, u61_5, u61_6, u61_8, u61_11, u61_12, u61_14, u61_17, u61_18, u61_21, u61_22, u61_24, u61_26, u61_29, u61_30, u61_31, u61_34, u61_35, u61_38, u61_39, u61_40, u61_41, u61_42, u61_45, u61_46, u61_47, u61_50, u61_52, u61_55, u61_56, u61_57, u61_58, u61_60, u61_63, u61_64, u61_65, u61_68, u61_69, u61_72, u61_73, u61_74, u61_75, u61_76, u61_79, u61_82, u61_83, u61_86, u61_88, u61_91, u61_92, u61_93, u61_94, u61_97, u61_98, u61_99, u61_100, u61_103, u61_104, u61_107, u61_108, u61_111, u61_112, u61_113, u61_116, u61_117, u61_118, u61_121, u61_122, u61_123, u61_124, u61_127, u61_128, u61_131, u61_132, u61_133, u61_134, u61_137, u61_138, ly_kd, ly_al, ly_fv0, ly_fv1, ly_fv2, ly_fv3, ly_fv4, ly_fk, ly_ra, Option.toList, List.cons_append, List.nil_append, q_ski, q_skr, q_sku, if_true, if_false, t_ahead hA h50 hc.1 hc.2.1 ht, g1, g2, if_false]
        exact mid
      · exact absurd ⟨Int32.not_lt.mp g1, Int32.not_lt.mp g2⟩ g
theorem t_lst {A : Nat → Int32} {t u : Nat} (hA : q_by8s A t) (h50 : t ≤ 50) (hu : u = 0 ∨ u = 1) : ∀ k d, k ≤ 5 → q_TC A t u (d + 6 + 6 * k) 61 (5 - k) (q_lst A t u k)
  | 0, d, _ => t_least0 hA h50 hu
  | k + 1, d, h => by
    have ih1 := t_lst (u := u) hA h50 hu k (d + 5) (by omega)
    have ih2 := t_lst (u := u) hA h50 hu k d (by omega)
    have hG := q_G_lst (u := u) hA h50 k
    rw [show d + 5 + 6 + 6 * k = d + 6 * k + 3 + 8 by omega, show 5 - k = 5 - (k + 1) + 1 by omega] at ih1
    rw [show d + 6 + 6 * k = d + 6 * k + 5 + 1 by omega, show 5 - k = 5 - (k + 1) + 1 by omega] at ih2
    have hx := t_txt hA h50 hG ih2
    have := t_leastS (d := d + 6 * k + 3) (op := 5 - (k + 1)) hA h50 hu (by omega) hG ih1 hx
    rw [show d + 6 * k + 3 + 9 = d + 6 + 6 * (k + 1) by omega] at this
    exact this
/-- the FAULT of a text, -1 where there is none -/
def q_flt (t : Nat) (r : Bool × Nat × Nat × (Nat → Int32)) : Int32 := if r.1 = true ∧ r.2.1 = t then -1 else nI r.2.1
def q_whl (A : Nat → Int32) (t u : Nat) : Bool × Nat × Nat × (Nat → Int32) := q_txt A t (q_lst A t u 5) 0 0 (fun _ => 0)
theorem t_read {A : Nat → Int32} {t u d : Nat} {R : gR} {μ : gM} (hA : q_by8s A t) (h50 : t ≤ 50) (hu : u = 0 ∨ u = 1) (h39 : μ 39 1 = nI t) (h40 : ∀ j, j < t → μ 40 j = A j) (h : ∀ μ', (∀ o, o ≠ 27 → o ≠ 28 → o ≠ 29 → μ' o = μ o) → ((q_whl A t u).1 = true → μ' 28 1 = nI (q_whl A t u).2.2.1 ∧ ∀ j, j < (q_whl A t u).2.2.1 → μ' 29 j = q_enc ((q_whl A t u).2.2.2 j)) → R (some (.int (q_flt t (q_whl A t u)))) μ') : gc_S (d + 42) 65 [.ref 27, .ref 39, .int (nI u)] μ R := by
  have hG := q_G_txt hA (q_G_lst (u := u) hA h50 5)
  have hT := t_txt hA h50 (q_G_lst (u := u) hA h50 5) (t_lst hA h50 hu 5 d (by omega))
  have main : ∀ μ0 : gM, (∀ o, o ≠ 27 → o ≠ 28 → o ≠ 29 → μ0 o = μ o) → q_cs A t u 0 0 (fun _ => 0) μ0 → gc_W (gc_S (d+41)) cX2_read 2 0 R 33 [.ref 27, .ref 39, .int (nI u)] [] μ0 := fun μ0 f0 c0 => by
    refine (u65_33).mpr ?_
    simp only [u65_0, u65_1, u65_2, u65_5, u65_6, u65_7, u65_10, u65_12, u65_15, u65_17, u65_20, u65_21, u65_22, u65_25, u65_26, u65_29, u65_30, u65_34, u65_35, u65_38, u65_41, u65_42, u65_45, u65_46, u65_49, u65_52, u65_55, u65_56, u65_59, u65_60, u65_63, ly_kd, ly_al, ly_fv0, ly_fv1, ly_fv2, ly_fv3, ly_fv4, ly_fk, ly_ra, Option.toList, List.cons_append, List.nil_append, q_ski, q_skr, q_sku, if_true, if_false]
    have gg := hG 0 0 (fun _ => 0) (by omega) (by omega)
    have hT : q_TC A t u (d + 41) 64 0 (q_txt A t (q_lst A t u 5)) := hT
    refine hT μ0 _ 0 0 (fun _ => 0) c0 (by omega) (by omega) (fun μ1 f1 a1 c1 m1 => ?_)
    have fa : ∀ o, o ≠ 27 → o ≠ 28 → o ≠ 29 → μ1 o = μ o := fun o a b c => (f1.1 o a b c).trans (f0 o a b c)
    have st1 := q_st_cf c0.1 f1
    have fin := h μ1 fa c1
    unfold q_flt at fin
    have gt := gg.2.1
    have a1 : μ1 27 4 = nI (q_whl A t u).2.1 := a1
    have gt : (q_whl A t u).2.1 ≤ t := gt
    by_cases e : (q_whl A t u).1 = true
    · rw [show q_b ((q_txt A t (q_lst A t u 5) 0 0 (fun _ => 0)).1 = true) = 1 from q_bt e]
      by_cases e2 : (q_whl A t u).2.1 = t
      · rw [if_pos ⟨e, e2⟩] at fin
        simp only [u65_0, u65_1, u65_2, u65_5, u65_6, u65_7, u65_10, u65_12, u65_15, u65_17, u65_20, u65_21, u65_22, u65_25, u65_26, u65_29, u65_30, u65_34, u65_35, u65_38, u65_41, u65_42, u65_45, u65_46, u65_49, u65_52, u65_55, u65_56, u65_59, u65_60, u65_63, ly_kd, ly_al, ly_fv0, ly_fv1, ly_fv2, ly_fv3, ly_fv4, ly_fk, ly_ra, Option.toList, List.cons_append, List.nil_append, q_ski, q_skr, q_sku, if_true, if_false, show ¬ (1 : Int32) = 0 by decide, a1, st1.1, q_n39, st1.2.2.1, e2]
        exact fin
      · rw [if_neg (fun z => e2 z.2)] at fin
        have ne : ¬ nI (q_whl A t u).2.1 = nI t := fun z => e2 ((nI_eq (by omega) (by omega)).mp z)
        simp only [u65_0, u65_1, u65_2, u65_5, u65_6, u65_7, u65_10, u65_12, u65_15, u65_17, u65_20, u65_21, u65_22, u65_25, u65_26, u65_29, u65_30, u65_34, u65_35, u65_38, u65_41, u65_42, u65_45, u65_46, u65_49, u65_52, u65_55, u65_56, u65_59, u65_60, u65_63, ly_kd, ly_al, ly_fv0, ly_fv1, ly_fv2, ly_fv3, ly_fv4, ly_fk, ly_ra, Option.toList, List.cons_append, List.nil_append, q_ski, q_skr, q_sku, if_true, if_false, show ¬ (1 : Int32) = 0 by decide, a1, st1.1, q_n39, st1.2.2.1, ne, if_false]
        exact fin
    · rw [show q_b ((q_txt A t (q_lst A t u 5) 0 0 (fun _ => 0)).1 = true) = 0 from q_bf e]
      rw [if_neg (fun z => e z.1)] at fin
      simp only [u65_0, u65_1, u65_2, u65_5, u65_6, u65_7, u65_10, u65_12, u65_15, u65_17, u65_20, u65_21, u65_22, u65_25, u65_26, u65_29, u65_30, u65_34, u65_35, u65_38, u65_41, u65_42, u65_45, u65_46, u65_49, u65_52, u65_55, u65_56, u65_59, u65_60, u65_63, ly_kd, ly_al, ly_fv0, ly_fv1, ly_fv2, ly_fv3, ly_fv4, ly_fk, ly_ra, Option.toList, List.cons_append, List.nil_append, q_ski, q_skr, q_sku, if_true, if_false, a1]
      exact fin
  have b39 : Nat.blt 39 1000 = true := rfl
  have b103 : Nat.blt 103 1000 = true := rfl
  have b104 : Nat.blt 104 1000 = true := rfl
  rcases hu with rfl | rfl
  · simp only [s65, u65_0, u65_1, u65_2, u65_5, u65_6, u65_7, u65_10, u65_12, u65_15, u65_17, u65_20, u65_21, u65_22, u65_25, u65_26, u65_29, u65_30, u65_34, u65_35, u65_38, u65_41, u65_42, u65_45, u65_46, u65_49, u65_52, u65_55, u65_56, u65_59, u65_60, u65_63, ly_kd, ly_al, ly_fv0, ly_fv1, ly_fv2, ly_fv3, ly_fv4, ly_fk, ly_ra, Option.toList, List.cons_append, List.nil_append, q_ski, q_skr, q_sku, if_true, if_false, b39, b103, b104, show nI 0 = 0 from rfl, show ¬ ¬ (0 : Int32) = 0 by decide]
    refine main _ (fun o a b c => by rw [gc_up_ne b, gc_up_ne a, gc_up_ne a, gc_up_ne a]) ⟨⟨?_, ?_, ?_, fun j hj => ?_⟩, ?_, ?_, fun j hj => absurd hj (by omega)⟩
    · rw [q_up_o (by omega), q_up_j (by omega), q_up_j (by omega), q_up_same]
    · rw [q_up_o (by omega), q_up_j (by omega), q_up_same]
    · rw [q_up_o (by omega), q_up_o (by omega), q_up_o (by omega), q_up_o (by omega)]; exact h39
    · rw [q_up_o (by omega), q_up_o (by omega), q_up_o (by omega), q_up_o (by omega)]; exact h40 j hj
    · rw [q_up_o (by omega), q_up_same]; rfl
    · rw [q_up_same]; rfl
  · simp only [s65, u65_0, u65_1, u65_2, u65_5, u65_6, u65_7, u65_10, u65_12, u65_15, u65_17, u65_20, u65_21, u65_22, u65_25, u65_26, u65_29, u65_30, u65_34, u65_35, u65_38, u65_41, u65_42, u65_45, u65_46, u65_49, u65_52, u65_55, u65_56, u65_59, u65_60, u65_63, ly_kd, ly_al, ly_fv0, ly_fv1, ly_fv2, ly_fv3, ly_fv4, ly_fk, ly_ra, Option.toList, List.cons_append, List.nil_append, q_ski, q_skr, q_sku, if_true, if_false, b39, b103, b104, show nI 1 = 1 from rfl, show ¬ (1 : Int32) = 0 by decide]
    refine main _ (fun o a b c => by rw [gc_up_ne b, gc_up_ne a, gc_up_ne a, gc_up_ne a]) ⟨⟨?_, ?_, ?_, fun j hj => ?_⟩, ?_, ?_, fun j hj => absurd hj (by omega)⟩
    · rw [q_up_o (by omega), q_up_j (by omega), q_up_j (by omega), q_up_same]
    · rw [q_up_o (by omega), q_up_j (by omega), q_up_same]
    · rw [q_up_o (by omega), q_up_o (by omega), q_up_o (by omega), q_up_o (by omega)]; exact h39
    · rw [q_up_o (by omega), q_up_o (by omega), q_up_o (by omega), q_up_o (by omega)]; exact h40 j hj
    · rw [q_up_o (by omega), q_up_same]; rfl
    · rw [q_up_same]; rfl
