/-! texts that are read: the reference, all of it -/
theorem m_txt {A : Nat → Int32} {t u e op : Nat} {p : Nat → Nat → (Nat → Int32) → Bool × Nat × Nat × (Nat → Int32)} (hA : q_by8s A t) (h50 : t ≤ 50) (hG : q_G t p) (hp : q_TM A t u (e + 2) 164 op p) : q_TM A t u (e + 7) 160 op (q_txt A t p) := by
  have g0 := q_G_lvl hA q_sgn0 hG
  have h0 := m_product (d := e) hA h50 hG hp
  have g1 := q_G_lvl hA q_sgn1 g0
  have h1 := m_sum (d := e + 1) hA h50 g0 h0
  have g2 := q_G_cmd hA g1
  have h2 := m_compared (d := e + 2) hA h50 g1 h1
  have g3 := q_G_lvl hA q_sgn3 g2
  have h3 := m_both (d := e + 3) hA h50 g2 h2
  exact m_either (d := e + 4) hA h50 g3 h3
theorem m_nameOf {d : Nat} {R : gR} {μ : gM} {u : Nat} {z : Int32} (hu : u = 0 ∨ u = 1) (h10 : μ 83 10 = nI u) : gc_S (d + 1) 156 [.ref 83, .int z] μ R ↔ R (some (.int (q_nm u z))) μ := by
  unfold q_nm
  rcases hu with rfl | rfl
  · have h10 : μ 83 10 = 0 := h10
    by_cases h1 : z = 119
    · simp only [s156, u156_0, u156_1, u156_3, u156_6, u156_7, u156_10, u156_11, u156_12, u156_15, u156_18, u156_20, u156_23, u156_25, u156_28, u156_29, u156_32, u156_33, u156_35, u156_38, u156_39, u156_42, u156_43, ly_kd, ly_al, ly_fv0, ly_fv1, ly_fv2, ly_fv3, ly_fv4, ly_fk, ly_ra, Option.toList, List.cons_append, List.nil_append, q_ski, q_skr, q_sku, if_true, if_false, h1]
    · by_cases h2 : z = 115
      · simp only [s156, u156_0, u156_1, u156_3, u156_6, u156_7, u156_10, u156_11, u156_12, u156_15, u156_18, u156_20, u156_23, u156_25, u156_28, u156_29, u156_32, u156_33, u156_35, u156_38, u156_39, u156_42, u156_43, ly_kd, ly_al, ly_fv0, ly_fv1, ly_fv2, ly_fv3, ly_fv4, ly_fk, ly_ra, Option.toList, List.cons_append, List.nil_append, q_ski, q_skr, q_sku, if_true, if_false, h10, h2, show ¬ (115 : Int32) = 119 by decide]
      · by_cases h3 : z = 121
        · simp only [s156, u156_0, u156_1, u156_3, u156_6, u156_7, u156_10, u156_11, u156_12, u156_15, u156_18, u156_20, u156_23, u156_25, u156_28, u156_29, u156_32, u156_33, u156_35, u156_38, u156_39, u156_42, u156_43, ly_kd, ly_al, ly_fv0, ly_fv1, ly_fv2, ly_fv3, ly_fv4, ly_fk, ly_ra, Option.toList, List.cons_append, List.nil_append, q_ski, q_skr, q_sku, if_true, if_false, h10, h3, show ¬ (121 : Int32) = 119 by decide, show ¬ (121 : Int32) = 115 by decide]
        · simp only [s156, u156_0, u156_1, u156_3, u156_6, u156_7, u156_10, u156_11, u156_12, u156_15, u156_18, u156_20, u156_23, u156_25, u156_28, u156_29, u156_32, u156_33, u156_35, u156_38, u156_39, u156_42, u156_43, ly_kd, ly_al, ly_fv0, ly_fv1, ly_fv2, ly_fv3, ly_fv4, ly_fk, ly_ra, Option.toList, List.cons_append, List.nil_append, q_ski, q_skr, q_sku, if_true, if_false, h10, h1, h2, h3]
  · have h10 : μ 83 10 = 1 := h10
    by_cases h1 : z = 119
    · simp only [s156, u156_0, u156_1, u156_3, u156_6, u156_7, u156_10, u156_11, u156_12, u156_15, u156_18, u156_20, u156_23, u156_25, u156_28, u156_29, u156_32, u156_33, u156_35, u156_38, u156_39, u156_42, u156_43, ly_kd, ly_al, ly_fv0, ly_fv1, ly_fv2, ly_fv3, ly_fv4, ly_fk, ly_ra, Option.toList, List.cons_append, List.nil_append, q_ski, q_skr, q_sku, if_true, if_false, h1]
    · by_cases h2 : z = 110
      · simp only [s156, u156_0, u156_1, u156_3, u156_6, u156_7, u156_10, u156_11, u156_12, u156_15, u156_18, u156_20, u156_23, u156_25, u156_28, u156_29, u156_32, u156_33, u156_35, u156_38, u156_39, u156_42, u156_43, ly_kd, ly_al, ly_fv0, ly_fv1, ly_fv2, ly_fv3, ly_fv4, ly_fk, ly_ra, Option.toList, List.cons_append, List.nil_append, q_ski, q_skr, q_sku, if_true, if_false, h10, h2, show ¬ (110 : Int32) = 119 by decide, show ¬ (1 : Int32) = 0 by decide, show ¬ (1 : Nat) = 0 by decide]
      · by_cases h3 : z = 121
        · simp only [s156, u156_0, u156_1, u156_3, u156_6, u156_7, u156_10, u156_11, u156_12, u156_15, u156_18, u156_20, u156_23, u156_25, u156_28, u156_29, u156_32, u156_33, u156_35, u156_38, u156_39, u156_42, u156_43, ly_kd, ly_al, ly_fv0, ly_fv1, ly_fv2, ly_fv3, ly_fv4, ly_fk, ly_ra, Option.toList, List.cons_append, List.nil_append, q_ski, q_skr, q_sku, if_true, if_false, h10, h3, show ¬ (121 : Int32) = 119 by decide, show ¬ (121 : Int32) = 110 by decide, show ¬ (1 : Int32) = 0 by decide, show ¬ (1 : Nat) = 0 by decide]
        · simp only [s156, u156_0, u156_1, u156_3, u156_6, u156_7, u156_10, u156_11, u156_12, u156_15, u156_18, u156_20, u156_23, u156_25, u156_28, u156_29, u156_32, u156_33, u156_35, u156_38, u156_39, u156_42, u156_43, ly_kd, ly_al, ly_fv0, ly_fv1, ly_fv2, ly_fv3, ly_fv4, ly_fk, ly_ra, Option.toList, List.cons_append, List.nil_append, q_ski, q_skr, q_sku, if_true, if_false, h10, h1, h2, h3, show ¬ (1 : Int32) = 0 by decide, show ¬ (1 : Nat) = 0 by decide]
theorem q_nm_dig {u : Nat} {z : Int32} (hu : u = 0 ∨ u = 1) (g : 48 ≤ z ∧ z ≤ 57) : q_nm u z = -1 := by
  unfold q_nm
  have k : ∀ x : Int32, ¬ x ≤ 57 → ¬ z = x := fun x hx e => hx (by rw [← e]; exact g.2)
  rw [if_neg (k _ (by decide)), if_neg (k _ (by rcases hu with rfl | rfl <;> decide)), if_neg (k _ (by decide))]
set_option maxHeartbeats 1000000 in
theorem m_base {A : Nat → Int32} {t u d op pos n : Nat} {C : Nat → Int32} {μ : gM} {R : gR} (hA : q_by8s A t) (h50 : t ≤ 50) (hu : u = 0 ∨ u = 1) (hc : q_ms A t u op pos n C μ) (hn : n ≤ pos) (ht : pos ≤ t) (n33 : ¬ A pos = 33) (n40 : ¬ A pos = 40) (h : q_mo A t u op μ (q_bse A u pos n C) R) : gc_S (d + 2) 164 [.ref 83] μ R := by
  refine s164.mpr ?_
  have nm := fun (d : Nat) (R : gR) => m_nameOf (d := d) (R := R) (z := A pos) hu hc.1.2.2.1
  unfold q_bse at h
  by_cases g : 48 ≤ A pos ∧ A pos ≤ 57
  · rw [if_pos g] at h
    have e1 := q_nm_dig hu g
    have fin : ∀ p1 v i μ1, 1 ≤ i → i ≤ 4 → q_mf μ μ1 → q_ms A t u op p1 n C μ1 → p1 = (q_rd A 4 pos 0).1 → v = (q_rd A 4 pos 0).2 → ∀ l1 l2, gc_W (gc_S (d+1)) cX12_unit 12 2 R 110 [.ref 83, l1, l2, .int (nI v), .int (nI i)] [] μ1 := fun p1 v i μ1 hi hi4 f1 c1 e1 e2 l1 l2 => by
      have i0 : ¬ nI i = 0 := fun z => absurd ((nI_eq (by omega) (by omega)).mp (show nI i = nI 0 from z)) (by omega)
      obtain ⟨c3, f3⟩ := q_ms_lay (z := nI v) c1
      refine (u164_110).mpr ?_
      simp only [u164_0, u164_1, u164_4, u164_5, u164_6, u164_8, u164_11, u164_12, u164_14, u164_17, u164_18, u164_19, u164_22, u164_23, u164_24, u164_25, u164_28, u164_29, u164_30, u164_33, u164_34, u164_35, u164_38, u164_39, u164_40, u164_43, u164_44, u164_47, u164_48, u164_49, u164_52, u164_53, u164_54, u164_55, u164_56, u164_60, u164_61, u164_64, u164_65, u164_68, u164_69, u164_72, u164_75, u164_78, u164_81, u164_83, u164_84, u164_85, u164_86, u164_89, u164_90, u164_92, u164_93, u164_94, u164_95, u164_96, u164_99, u164_100, u164_101, u164_104, u164_107, u164_112, u164_115, u164_116, u164_119, u164_120, u164_121, u164_124, ly_kd, ly_al, ly_fv0, ly_fv1, ly_fv2, ly_fv3, ly_fv4, ly_fk, ly_ra, Option.toList, List.cons_append, List.nil_append, q_ski, q_skr, q_sku, if_true, if_false, i0, m_lay c1.2.2.1 c1.2.2.2.2.1 (show n < 60 by omega)]
      rw [e1, e2] at c3
      rw [e2] at f3 ⊢
      exact h _ (f1.tr f3) (fun _ => c3) (fun z => absurd rfl z)
    have main : ∀ k i p1 v μ1, i + k = 4 → (i = 0 → 48 ≤ A p1 ∧ A p1 ≤ 57) → q_mf μ μ1 → q_ms A t u op p1 n C μ1 → p1 ≤ t → q_rd A k p1 v = q_rd A 4 pos 0 → ∀ l1 l2, gc_W (gc_S (d+1)) cX12_unit 12 2 R 58 [.ref 83, l1, l2, .int (nI v), .int (nI i)] [] μ1 := by
      intro k
      induction k with
      | zero =>
        intro i p1 v μ1 hi h0 f1 c1 ht1 e l1 l2
        obtain rfl : i = 4 := hi
        have e : (p1, v) = q_rd A 4 pos 0 := e
        refine (u164_58).mpr ?_
        simp only [u164_0, u164_1, u164_4, u164_5, u164_6, u164_8, u164_11, u164_12, u164_14, u164_17, u164_18, u164_19, u164_22, u164_23, u164_24, u164_25, u164_28, u164_29, u164_30, u164_33, u164_34, u164_35, u164_38, u164_39, u164_40, u164_43, u164_44, u164_47, u164_48, u164_49, u164_52, u164_53, u164_54, u164_55, u164_56, u164_60, u164_61, u164_64, u164_65, u164_68, u164_69, u164_72, u164_75, u164_78, u164_81, u164_83, u164_84, u164_85, u164_86, u164_89, u164_90, u164_92, u164_93, u164_94, u164_95, u164_96, u164_99, u164_100, u164_101, u164_104, u164_107, u164_112, u164_115, u164_116, u164_119, u164_120, u164_121, u164_124, show (4 : Int32) ≤ nI 4 by decide, if_true]
        exact fin p1 v 4 μ1 (by omega) (by omega) f1 c1 (by rw [← e]) (by rw [← e]) _ _
      | succ k ih =>
        intro i p1 v μ1 hi h0 f1 c1 ht1 e l1 l2
        have e' : q_rd A (k + 1) p1 v = if 48 ≤ A p1 ∧ A p1 ≤ 57 then q_rd A k (p1 + 1) (v * 10 + ((A p1).toNatClampNeg - 48)) else (p1, v) := rfl
        rw [e'] at e
        have i4 : ¬ (4 : Int32) ≤ nI i := q_nle (show i < 4 by omega) (by decide) (show (4 : Int32) = nI 4 from rfl)
        refine (u164_58).mpr ?_
        by_cases gd : 48 ≤ A p1 ∧ A p1 ≤ 57
        · rw [if_pos gd] at e
          have pt := q_in_t hA (fun z => by rw [z] at gd; exact absurd gd.1 (by decide))
          obtain ⟨b, b1, b2⟩ := hA.1 p1 pt
          have b48 : 48 ≤ b := by
            by_cases z : 48 ≤ b
            · exact z
            · exact absurd gd.1 (by rw [b2]; exact (show ¬ nI 48 ≤ nI b from nI_ge (by omega) (by omega)))
          have hb : (A p1).toNatClampNeg = b := by rw [b2]; exact nI_clamp (by omega)
          have num : 10 * nI v + A p1 - 48 = nI (v * 10 + (b - 48)) := by
            rw [b2, show (10 : Int32) = nI 10 from rfl, pk_mul, nI_add, show (48 : Int32) = nI 48 from rfl, pk_sub (by omega)]
            congr 1; omega
          simp only [u164_0, u164_1, u164_4, u164_5, u164_6, u164_8, u164_11, u164_12, u164_14, u164_17, u164_18, u164_19, u164_22, u164_23, u164_24, u164_25, u164_28, u164_29, u164_30, u164_33, u164_34, u164_35, u164_38, u164_39, u164_40, u164_43, u164_44, u164_47, u164_48, u164_49, u164_52, u164_53, u164_54, u164_55, u164_56, u164_60, u164_61, u164_64, u164_65, u164_68, u164_69, u164_72, u164_75, u164_78, u164_81, u164_83, u164_84, u164_85, u164_86, u164_89, u164_90, u164_92, u164_93, u164_94, u164_95, u164_96, u164_99, u164_100, u164_101, u164_104, u164_107, u164_112, u164_115, u164_116, u164_119, u164_120, u164_121, u164_124, ly_kd, ly_al, ly_fv0, ly_fv1, ly_fv2, ly_fv3, ly_fv4, ly_fk, ly_ra, Option.toList, List.cons_append, List.nil_append, q_ski, q_skr, q_sku, if_true, if_false, i4, m_here hA h50 c1 ht1, m_in, q_wl48, q_wu57, q_bt gd, show ¬ (1 : Int32) = 0 by decide, num, c1.2.2.2.1, nI_1]
          rw [hb] at e
          exact ih (i + 1) (p1 + 1) (v * 10 + (b - 48)) _ (by omega) (fun z => absurd z (by omega)) (f1.tr q_mf_pass) (q_ms_pass c1) (by omega) e _ _
        · rw [if_neg gd] at e
          have hi0 : i ≠ 0 := fun z => gd (h0 z)
          simp only [u164_0, u164_1, u164_4, u164_5, u164_6, u164_8, u164_11, u164_12, u164_14, u164_17, u164_18, u164_19, u164_22, u164_23, u164_24, u164_25, u164_28, u164_29, u164_30, u164_33, u164_34, u164_35, u164_38, u164_39, u164_40, u164_43, u164_44, u164_47, u164_48, u164_49, u164_52, u164_53, u164_54, u164_55, u164_56, u164_60, u164_61, u164_64, u164_65, u164_68, u164_69, u164_72, u164_75, u164_78, u164_81, u164_83, u164_84, u164_85, u164_86, u164_89, u164_90, u164_92, u164_93, u164_94, u164_95, u164_96, u164_99, u164_100, u164_101, u164_104, u164_107, u164_112, u164_115, u164_116, u164_119, u164_120, u164_121, u164_124, ly_kd, ly_al, ly_fv0, ly_fv1, ly_fv2, ly_fv3, ly_fv4, ly_fk, ly_ra, Option.toList, List.cons_append, List.nil_append, q_ski, q_skr, q_sku, if_true, if_false, i4, m_here hA h50 c1 ht1, m_in, q_wl48, q_wu57, q_bf gd]
          exact fin p1 v i μ1 (by omega) (by omega) f1 c1 (by rw [← e]) (by rw [← e]) _ _
    simp only [u164_0, u164_1, u164_4, u164_5, u164_6, u164_8, u164_11, u164_12, u164_14, u164_17, u164_18, u164_19, u164_22, u164_23, u164_24, u164_25, u164_28, u164_29, u164_30, u164_33, u164_34, u164_35, u164_38, u164_39, u164_40, u164_43, u164_44, u164_47, u164_48, u164_49, u164_52, u164_53, u164_54, u164_55, u164_56, u164_60, u164_61, u164_64, u164_65, u164_68, u164_69, u164_72, u164_75, u164_78, u164_81, u164_83, u164_84, u164_85, u164_86, u164_89, u164_90, u164_92, u164_93, u164_94, u164_95, u164_96, u164_99, u164_100, u164_101, u164_104, u164_107, u164_110, u164_112, u164_115, u164_116, u164_119, u164_120, u164_121, u164_124, ly_kd, ly_al, ly_fv0, ly_fv1, ly_fv2, ly_fv3, ly_fv4, ly_fk, ly_ra, Option.toList, List.cons_append, List.nil_append, q_ski, q_skr, q_sku, if_true, if_false, m_here hA h50 hc ht, n33, n40, nm, e1, show (-1 : Int32) < 0 by decide]
    exact main 4 0 pos 0 μ rfl (fun _ => g) q_mf.rf hc ht rfl _ _
  · rw [if_neg g] at h
    by_cases g2 : q_nm u (A pos) < 0
    · rw [if_pos g2] at h
      simp only [u164_0, u164_1, u164_4, u164_5, u164_6, u164_8, u164_11, u164_12, u164_14, u164_17, u164_18, u164_19, u164_22, u164_23, u164_24, u164_25, u164_28, u164_29, u164_30, u164_33, u164_34, u164_35, u164_38, u164_39, u164_40, u164_43, u164_44, u164_47, u164_48, u164_49, u164_52, u164_53, u164_54, u164_55, u164_56, u164_60, u164_61, u164_64, u164_65, u164_68, u164_69, u164_72, u164_75, u164_78, u164_81, u164_83, u164_84, u164_85, u164_86, u164_89, u164_90, u164_92, u164_93, u164_94, u164_95, u164_96, u164_99, u164_100, u164_101, u164_104, u164_107, u164_110, u164_112, u164_115, u164_116, u164_119, u164_120, u164_121, u164_124, ly_kd, ly_al, ly_fv0, ly_fv1, ly_fv2, ly_fv3, ly_fv4, ly_fk, ly_ra, Option.toList, List.cons_append, List.nil_append, q_ski, q_skr, q_sku, if_true, if_false, m_here hA h50 hc ht, n33, n40, nm, g2]
      refine (u164_58).mpr ?_
      simp only [u164_0, u164_1, u164_4, u164_5, u164_6, u164_8, u164_11, u164_12, u164_14, u164_17, u164_18, u164_19, u164_22, u164_23, u164_24, u164_25, u164_28, u164_29, u164_30, u164_33, u164_34, u164_35, u164_38, u164_39, u164_40, u164_43, u164_44, u164_47, u164_48, u164_49, u164_52, u164_53, u164_54, u164_55, u164_56, u164_60, u164_61, u164_64, u164_65, u164_68, u164_69, u164_72, u164_75, u164_78, u164_81, u164_83, u164_84, u164_85, u164_86, u164_89, u164_90, u164_92, u164_93, u164_94, u164_95, u164_96, u164_99, u164_100, u164_101, u164_104, u164_107, u164_110, u164_112, u164_115, u164_116, u164_119, u164_120, u164_121, u164_124, ly_kd, ly_al, ly_fv0, ly_fv1, ly_fv2, ly_fv3, ly_fv4, ly_fk, ly_ra, Option.toList, List.cons_append, List.nil_append, q_ski, q_skr, q_sku, if_true, if_false, show ¬ (4 : Int32) ≤ 0 by decide, m_here hA h50 hc ht, m_in, q_wl48, q_wu57, q_bf g, m_wrong hc.2.2.1 hc.2.2.2.1, m_layF (μ := gc_up μ 83 8 (nI pos)) (show pos < 100 by omega) q_up_same]
      exact h _ q_mf_8 (fun z => by cases z) (fun _ => ⟨q_up_same, by rw [q_up_j (by omega)]; exact hc.2.1⟩)
    · rw [if_neg g2] at h
      have c2 := q_ms_pass hc
      obtain ⟨c3, f3⟩ := q_ms_lay (z := 10000 + q_nm u (A pos)) c2
      simp only [u164_0, u164_1, u164_4, u164_5, u164_6, u164_8, u164_11, u164_12, u164_14, u164_17, u164_18, u164_19, u164_22, u164_23, u164_24, u164_25, u164_28, u164_29, u164_30, u164_33, u164_34, u164_35, u164_38, u164_39, u164_40, u164_43, u164_44, u164_47, u164_48, u164_49, u164_52, u164_53, u164_54, u164_55, u164_56, u164_60, u164_61, u164_64, u164_65, u164_68, u164_69, u164_72, u164_75, u164_78, u164_81, u164_83, u164_84, u164_85, u164_86, u164_89, u164_90, u164_92, u164_93, u164_94, u164_95, u164_96, u164_99, u164_100, u164_101, u164_104, u164_107, u164_110, u164_112, u164_115, u164_116, u164_119, u164_120, u164_121, u164_124, ly_kd, ly_al, ly_fv0, ly_fv1, ly_fv2, ly_fv3, ly_fv4, ly_fk, ly_ra, Option.toList, List.cons_append, List.nil_append, q_ski, q_skr, q_sku, if_true, if_false, m_here hA h50 hc ht, n33, n40, nm, g2, hc.2.2.2.1, nI_1, m_lay c2.2.2.1 c2.2.2.2.2.1 (show n < 60 by omega)]
      exact h _ (q_mf_pass.tr f3) (fun _ => c3) (fun z => absurd rfl z)
theorem m_leaf {A : Nat → Int32} {t u d : Nat} (hA : q_by8s A t) (h50 : t ≤ 50) (hu : u = 0 ∨ u = 1) : q_TM A t u (d + 3) 164 5 (q_bse A u) := by
  intro μ R pos n C hc hn ht h
  have h9 : μ 83 9 = 5 := hc.2.1
  have bad : ∀ x : Int32, A pos = x → ¬ (48 ≤ x ∧ x ≤ 57) → q_nm u x < 0 → R none (gc_up μ 83 8 (nI pos)) := fun x e h1 h2 => by
    unfold q_bse at h
    rw [e, if_neg h1, if_pos h2] at h
    exact h _ q_mf_8 (fun z => by cases z) (fun _ => ⟨q_up_same, by rw [q_up_j (by omega)]; exact hc.2.1⟩)
  by_cases g1 : A pos = 33
  · refine s164.mpr ?_
    have b := bad 33 g1 (by decide) (by rcases hu with rfl | rfl <;> decide)
    simp only [u164_0, u164_1, u164_4, u164_5, u164_6, u164_8, u164_11, u164_12, u164_14, u164_17, u164_18, u164_19, u164_22, u164_23, u164_24, u164_25, u164_28, u164_29, u164_30, u164_33, u164_34, u164_35, u164_38, u164_39, u164_40, u164_43, u164_44, u164_47, u164_48, u164_49, u164_52, u164_53, u164_54, u164_55, u164_56, u164_60, u164_61, u164_64, u164_65, u164_68, u164_69, u164_72, u164_75, u164_78, u164_81, u164_83, u164_84, u164_85, u164_86, u164_89, u164_90, u164_92, u164_93, u164_94, u164_95, u164_96, u164_99, u164_100, u164_101, u164_104, u164_107, u164_110, u164_112, u164_115, u164_116, u164_119, u164_120, u164_121, u164_124, ly_kd, ly_al, ly_fv0, ly_fv1, ly_fv2, ly_fv3, ly_fv4, ly_fk, ly_ra, Option.toList, List.cons_append, List.nil_append, q_ski, q_skr, q_sku, if_true, if_false, m_here hA h50 hc ht, g1, s161, u161_0, u161_1, u161_4, u161_5, u161_8, u161_9, u161_12, u161_13, u161_14, u161_15, u161_18, u161_19, u161_20, u161_23, u161_24, u161_25, u161_28, u161_29, u161_30, u161_33, u161_34, u161_36, u161_39, u161_40, u161_43, u161_44, u161_47, u161_50, u161_53, u161_54, u161_57, u161_58, u161_60, u161_63, u161_66, u161_67, u161_70, u161_71, u161_72, u161_75, u161_76, u161_77, u161_80, h9, m_wrong hc.2.2.1 hc.2.2.2.1]
    exact b
  · by_cases g2 : A pos = 40
    · refine s164.mpr ?_
      have b := bad 40 g2 (by decide) (by rcases hu with rfl | rfl <;> decide)
      simp only [u164_0, u164_1, u164_4, u164_5, u164_6, u164_8, u164_11, u164_12, u164_14, u164_17, u164_18, u164_19, u164_22, u164_23, u164_24, u164_25, u164_28, u164_29, u164_30, u164_33, u164_34, u164_35, u164_38, u164_39, u164_40, u164_43, u164_44, u164_47, u164_48, u164_49, u164_52, u164_53, u164_54, u164_55, u164_56, u164_60, u164_61, u164_64, u164_65, u164_68, u164_69, u164_72, u164_75, u164_78, u164_81, u164_83, u164_84, u164_85, u164_86, u164_89, u164_90, u164_92, u164_93, u164_94, u164_95, u164_96, u164_99, u164_100, u164_101, u164_104, u164_107, u164_110, u164_112, u164_115, u164_116, u164_119, u164_120, u164_121, u164_124, ly_kd, ly_al, ly_fv0, ly_fv1, ly_fv2, ly_fv3, ly_fv4, ly_fk, ly_ra, Option.toList, List.cons_append, List.nil_append, q_ski, q_skr, q_sku, if_true, if_false, m_here hA h50 hc ht, g2, show ¬ (40 : Int32) = 33 by decide, s161, u161_0, u161_1, u161_4, u161_5, u161_8, u161_9, u161_12, u161_13, u161_14, u161_15, u161_18, u161_19, u161_20, u161_23, u161_24, u161_25, u161_28, u161_29, u161_30, u161_33, u161_34, u161_36, u161_39, u161_40, u161_43, u161_44, u161_47, u161_50, u161_53, u161_54, u161_57, u161_58, u161_60, u161_63, u161_66, u161_67, u161_70, u161_71, u161_72, u161_75, u161_76, u161_77, u161_80, h9, m_wrong hc.2.2.1 hc.2.2.2.1]
      exact b
    · exact m_base (d := d + 1) hA h50 hu hc hn ht g1 g2 h
theorem q_ms_op {A : Nat → Int32} {t u op op' pos n : Nat} {C : Nat → Int32} {μ : gM} (h : q_ms A t u op pos n C μ) : q_ms A t u op' pos n C (gc_up μ 83 9 (nI op')) := ⟨q_mt_mf h.1 q_mf_9, q_up_same, by rw [q_up_j (by omega)]; exact h.2.2.1, by rw [q_up_j (by omega)]; exact h.2.2.2.1, by rw [q_up_j (by omega)]; exact h.2.2.2.2.1, fun j hj => by rw [q_up_o (by omega)]; exact h.2.2.2.2.2 j hj⟩
set_option maxHeartbeats 1000000 in
theorem m_unitS {A : Nat → Int32} {t u d op : Nat} {p : Nat → Nat → (Nat → Int32) → Bool × Nat × Nat × (Nat → Int32)} (hA : q_by8s A t) (h50 : t ≤ 50) (hu : u = 0 ∨ u = 1) (hop : op < 5) (hG : q_G t p) (hp : q_TM A t u (d + 2) 164 (op + 1) p) (hx : q_TM A t u (d + 2) 160 (op + 1) (q_txt A t p)) : q_TM A t u (d + 4) 164 op (fun pos n C => if A pos = 33 then q_bd (p (pos + 1) n C) (fun p1 n1 C1 => (true, p1, n1 + 1, upd C1 n1 20033)) else if A pos = 40 then q_bd (q_txt A t p (pos + 1) n C) (fun p1 n1 C1 => if A p1 = 41 then (true, p1 + 1, n1, C1) else (false, p1, n1, C1)) else q_bse A u pos n C) := by
  intro μ R pos n C hc hn ht h
  have h : q_mo A t u op μ (if A pos = 33 then q_bd (p (pos + 1) n C) (fun p1 n1 C1 => (true, p1, n1 + 1, upd C1 n1 20033)) else if A pos = 40 then q_bd (q_txt A t p (pos + 1) n C) (fun p1 n1 C1 => if A p1 = 41 then (true, p1 + 1, n1, C1) else (false, p1, n1, C1)) else q_bse A u pos n C) R := h
  have o5 : ¬ nI op = 5 := fun z => absurd ((nI_eq (by omega) (by omega)).mp (show nI op = nI 5 from z)) (by omega)
  have os : nI (op + 1) - 1 = nI op := by
    rw [show (1 : Int32) = nI 1 from rfl, pk_sub (by omega)]; rfl
  have e6 : ∀ x, gc_up μ 83 9 x 83 6 = nI pos := fun x => by rw [q_up_j (by omega)]; exact hc.2.2.2.1
  have c0 : q_ms A t u (op + 1) (pos + 1) n C (gc_up (gc_up μ 83 9 (nI (op + 1))) 83 6 (nI (pos + 1))) := q_ms_pass (q_ms_op hc)
  have f0 : q_mf μ (gc_up (gc_up μ 83 9 (nI (op + 1))) 83 6 (nI (pos + 1))) := q_mf_9.tr q_mf_pass
  by_cases g1 : A pos = 33
  · rw [if_pos g1] at h
    have pt := q_in_t hA (by rw [g1]; decide)
    refine s164.mpr ?_
    simp only [u164_0, u164_1, u164_4, u164_5, u164_6, u164_8, u164_11, u164_12, u164_14, u164_17, u164_18, u164_19, u164_22, u164_23, u164_24, u164_25, u164_28, u164_29, u164_30, u164_33, u164_34, u164_35, u164_38, u164_39, u164_40, u164_43, u164_44, u164_47, u164_48, u164_49, u164_52, u164_53, u164_54, u164_55, u164_56, u164_60, u164_61, u164_64, u164_65, u164_68, u164_69, u164_72, u164_75, u164_78, u164_81, u164_83, u164_84, u164_85, u164_86, u164_89, u164_90, u164_92, u164_93, u164_94, u164_95, u164_96, u164_99, u164_100, u164_101, u164_104, u164_107, u164_110, u164_112, u164_115, u164_116, u164_119, u164_120, u164_121, u164_124, ly_kd, ly_al, ly_fv0, ly_fv1, ly_fv2, ly_fv3, ly_fv4, ly_fk, ly_ra, Option.toList, List.cons_append, List.nil_append, q_ski, q_skr, q_sku, if_true, if_false, m_here hA h50 hc ht, g1]
    refine s161.mpr ?_
    simp only [u161_0, u161_1, u161_4, u161_5, u161_8, u161_9, u161_12, u161_13, u161_14, u161_15, u161_18, u161_19, u161_20, u161_23, u161_24, u161_25, u161_28, u161_29, u161_30, u161_33, u161_34, u161_36, u161_39, u161_40, u161_43, u161_44, u161_47, u161_50, u161_53, u161_54, u161_57, u161_58, u161_60, u161_63, u161_66, u161_67, u161_70, u161_71, u161_72, u161_75, u161_76, u161_77, u161_80, ly_kd, ly_al, ly_fv0, ly_fv1, ly_fv2, ly_fv3, ly_fv4, ly_fk, ly_ra, Option.toList, List.cons_append, List.nil_append, q_ski, q_skr, q_sku, if_true, if_false, hc.2.1, o5, e6, nI_1]
    have gg := hG (pos + 1) n C (by omega) (by omega)
    refine hp _ _ (pos + 1) n C c0 (by omega) (by omega) (fun μ2 f2 a2 b2 => ?_)
    have fa := f0.tr f2
    obtain ⟨g3, g4, g5⟩ := gg
    by_cases e2 : (p (pos + 1) n C).1 = true
    · rw [q_bd_t e2] at h
      obtain ⟨g6, g7, g8, -⟩ := g5 e2
      have c2 := a2 e2
      obtain ⟨c3, f3⟩ := q_ms_lay (z := 20033) c2
      simp only [u161_0, u161_1, u161_4, u161_5, u161_8, u161_9, u161_12, u161_13, u161_14, u161_15, u161_18, u161_19, u161_20, u161_23, u161_24, u161_25, u161_28, u161_29, u161_30, u161_33, u161_34, u161_36, u161_39, u161_40, u161_43, u161_44, u161_47, u161_50, u161_53, u161_54, u161_57, u161_58, u161_60, u161_63, u161_66, u161_67, u161_70, u161_71, u161_72, u161_75, u161_76, u161_77, u161_80, u164_0, u164_1, u164_4, u164_5, u164_6, u164_8, u164_11, u164_12, u164_14, u164_17, u164_18, u164_19, u164_22, u164_23, u164_24, u164_25, u164_28, u164_29, u164_30, u164_33, u164_34, u164_35, u164_38, u164_39, u164_40, u164_43, u164_44, u164_47, u164_48, u164_49, u164_52, u164_53, u164_54, u164_55, u164_56, u164_60, u164_61, u164_64, u164_65, u164_68, u164_69, u164_72, u164_75, u164_78, u164_81, u164_83, u164_84, u164_85, u164_86, u164_89, u164_90, u164_92, u164_93, u164_94, u164_95, u164_96, u164_99, u164_100, u164_101, u164_104, u164_107, u164_110, u164_112, u164_115, u164_116, u164_119, u164_120, u164_121, u164_124, ly_kd, ly_al, ly_fv0, ly_fv1, ly_fv2, ly_fv3, ly_fv4, ly_fk, ly_ra, Option.toList, List.cons_append, List.nil_append, q_ski, q_skr, q_sku, if_true, if_false, m_lay c2.2.2.1 c2.2.2.2.2.1 (show (p (pos + 1) n C).2.2.1 < 60 by omega), c3.2.1, os]
      exact h _ ((fa.tr f3).tr q_mf_9) (fun _ => q_ms_op c3) (fun z => absurd rfl z)
    · rw [q_bd_f e2] at h
      obtain ⟨b3, b4⟩ := b2 e2
      simp only [u161_0, u161_1, u161_4, u161_5, u161_8, u161_9, u161_12, u161_13, u161_14, u161_15, u161_18, u161_19, u161_20, u161_23, u161_24, u161_25, u161_28, u161_29, u161_30, u161_33, u161_34, u161_36, u161_39, u161_40, u161_43, u161_44, u161_47, u161_50, u161_53, u161_54, u161_57, u161_58, u161_60, u161_63, u161_66, u161_67, u161_70, u161_71, u161_72, u161_75, u161_76, u161_77, u161_80, u164_0, u164_1, u164_4, u164_5, u164_6, u164_8, u164_11, u164_12, u164_14, u164_17, u164_18, u164_19, u164_22, u164_23, u164_24, u164_25, u164_28, u164_29, u164_30, u164_33, u164_34, u164_35, u164_38, u164_39, u164_40, u164_43, u164_44, u164_47, u164_48, u164_49, u164_52, u164_53, u164_54, u164_55, u164_56, u164_60, u164_61, u164_64, u164_65, u164_68, u164_69, u164_72, u164_75, u164_78, u164_81, u164_83, u164_84, u164_85, u164_86, u164_89, u164_90, u164_92, u164_93, u164_94, u164_95, u164_96, u164_99, u164_100, u164_101, u164_104, u164_107, u164_110, u164_112, u164_115, u164_116, u164_119, u164_120, u164_121, u164_124, ly_kd, ly_al, ly_fv0, ly_fv1, ly_fv2, ly_fv3, ly_fv4, ly_fk, ly_ra, Option.toList, List.cons_append, List.nil_append, q_ski, q_skr, q_sku, if_true, if_false, m_layF (show (p (pos + 1) n C).2.1 < 100 by omega) b3, b4, os]
      exact h _ (fa.tr q_mf_9) (fun z => absurd z e2) (fun _ => ⟨by rw [q_up_j (by omega)]; exact b3, q_up_same⟩)
  · rw [if_neg g1] at h
    by_cases g2 : A pos = 40
    · rw [if_pos g2] at h
      have pt := q_in_t hA (by rw [g2]; decide)
      refine s164.mpr ?_
      simp only [u164_0, u164_1, u164_4, u164_5, u164_6, u164_8, u164_11, u164_12, u164_14, u164_17, u164_18, u164_19, u164_22, u164_23, u164_24, u164_25, u164_28, u164_29, u164_30, u164_33, u164_34, u164_35, u164_38, u164_39, u164_40, u164_43, u164_44, u164_47, u164_48, u164_49, u164_52, u164_53, u164_54, u164_55, u164_56, u164_60, u164_61, u164_64, u164_65, u164_68, u164_69, u164_72, u164_75, u164_78, u164_81, u164_83, u164_84, u164_85, u164_86, u164_89, u164_90, u164_92, u164_93, u164_94, u164_95, u164_96, u164_99, u164_100, u164_101, u164_104, u164_107, u164_110, u164_112, u164_115, u164_116, u164_119, u164_120, u164_121, u164_124, ly_kd, ly_al, ly_fv0, ly_fv1, ly_fv2, ly_fv3, ly_fv4, ly_fk, ly_ra, Option.toList, List.cons_append, List.nil_append, q_ski, q_skr, q_sku, if_true, if_false, m_here hA h50 hc ht, g2, show ¬ (40 : Int32) = 33 by decide]
      refine s161.mpr ?_
      simp only [u161_0, u161_1, u161_4, u161_5, u161_8, u161_9, u161_12, u161_13, u161_14, u161_15, u161_18, u161_19, u161_20, u161_23, u161_24, u161_25, u161_28, u161_29, u161_30, u161_33, u161_34, u161_36, u161_39, u161_40, u161_43, u161_44, u161_47, u161_50, u161_53, u161_54, u161_57, u161_58, u161_60, u161_63, u161_66, u161_67, u161_70, u161_71, u161_72, u161_75, u161_76, u161_77, u161_80, ly_kd, ly_al, ly_fv0, ly_fv1, ly_fv2, ly_fv3, ly_fv4, ly_fk, ly_ra, Option.toList, List.cons_append, List.nil_append, q_ski, q_skr, q_sku, if_true, if_false, hc.2.1, o5, e6, nI_1, show ¬ (40 : Int32) = 33 by decide]
      have gg := q_G_txt hA hG (pos + 1) n C (by omega) (by omega)
      refine hx _ _ (pos + 1) n C c0 (by omega) (by omega) (fun μ2 f2 a2 b2 => ?_)
      have fa := f0.tr f2
      obtain ⟨g3, g4, g5⟩ := gg
      by_cases e2 : (q_txt A t p (pos + 1) n C).1 = true
      · rw [q_bd_t e2] at h
        have c2 := a2 e2
        by_cases g9 : A (q_txt A t p (pos + 1) n C).2.1 = 41
        · rw [if_pos g9] at h
          have c3 := q_ms_pass c2
          simp only [u161_0, u161_1, u161_4, u161_5, u161_8, u161_9, u161_12, u161_13, u161_14, u161_15, u161_18, u161_19, u161_20, u161_23, u161_24, u161_25, u161_28, u161_29, u161_30, u161_33, u161_34, u161_36, u161_39, u161_40, u161_43, u161_44, u161_47, u161_50, u161_53, u161_54, u161_57, u161_58, u161_60, u161_63, u161_66, u161_67, u161_70, u161_71, u161_72, u161_75, u161_76, u161_77, u161_80, u164_0, u164_1, u164_4, u164_5, u164_6, u164_8, u164_11, u164_12, u164_14, u164_17, u164_18, u164_19, u164_22, u164_23, u164_24, u164_25, u164_28, u164_29, u164_30, u164_33, u164_34, u164_35, u164_38, u164_39, u164_40, u164_43, u164_44, u164_47, u164_48, u164_49, u164_52, u164_53, u164_54, u164_55, u164_56, u164_60, u164_61, u164_64, u164_65, u164_68, u164_69, u164_72, u164_75, u164_78, u164_81, u164_83, u164_84, u164_85, u164_86, u164_89, u164_90, u164_92, u164_93, u164_94, u164_95, u164_96, u164_99, u164_100, u164_101, u164_104, u164_107, u164_110, u164_112, u164_115, u164_116, u164_119, u164_120, u164_121, u164_124, ly_kd, ly_al, ly_fv0, ly_fv1, ly_fv2, ly_fv3, ly_fv4, ly_fk, ly_ra, Option.toList, List.cons_append, List.nil_append, q_ski, q_skr, q_sku, if_true, if_false, m_takesY hA h50 c2 g4 g9, show ¬ (1 : Int32) = 0 by decide, not_false_eq_true, c3.2.1, os]
          exact h _ ((fa.tr q_mf_pass).tr q_mf_9) (fun _ => q_ms_op c3) (fun z => absurd rfl z)
        · rw [if_neg g9] at h
          have e9 : gc_up μ2 83 8 (nI (q_txt A t p (pos + 1) n C).2.1) 83 9 = nI (op + 1) := by rw [q_up_j (by omega)]; exact c2.2.1
          simp only [u161_0, u161_1, u161_4, u161_5, u161_8, u161_9, u161_12, u161_13, u161_14, u161_15, u161_18, u161_19, u161_20, u161_23, u161_24, u161_25, u161_28, u161_29, u161_30, u161_33, u161_34, u161_36, u161_39, u161_40, u161_43, u161_44, u161_47, u161_50, u161_53, u161_54, u161_57, u161_58, u161_60, u161_63, u161_66, u161_67, u161_70, u161_71, u161_72, u161_75, u161_76, u161_77, u161_80, u164_0, u164_1, u164_4, u164_5, u164_6, u164_8, u164_11, u164_12, u164_14, u164_17, u164_18, u164_19, u164_22, u164_23, u164_24, u164_25, u164_28, u164_29, u164_30, u164_33, u164_34, u164_35, u164_38, u164_39, u164_40, u164_43, u164_44, u164_47, u164_48, u164_49, u164_52, u164_53, u164_54, u164_55, u164_56, u164_60, u164_61, u164_64, u164_65, u164_68, u164_69, u164_72, u164_75, u164_78, u164_81, u164_83, u164_84, u164_85, u164_86, u164_89, u164_90, u164_92, u164_93, u164_94, u164_95, u164_96, u164_99, u164_100, u164_101, u164_104, u164_107, u164_110, u164_112, u164_115, u164_116, u164_119, u164_120, u164_121, u164_124, ly_kd, ly_al, ly_fv0, ly_fv1, ly_fv2, ly_fv3, ly_fv4, ly_fk, ly_ra, Option.toList, List.cons_append, List.nil_append, q_ski, q_skr, q_sku, if_true, if_false, m_takesN hA h50 c2 g4 g9, m_wrong c2.2.2.1 c2.2.2.2.1, e9, os]
          exact h _ ((fa.tr q_mf_8).tr q_mf_9) (fun z => by cases z) (fun _ => ⟨by rw [q_up_j (by omega)]; exact q_up_same, q_up_same⟩)
      · rw [q_bd_f e2] at h
        obtain ⟨b3, b4⟩ := b2 e2
        have e9 : gc_up μ2 83 8 (nI (q_txt A t p (pos + 1) n C).2.1) 83 9 = nI (op + 1) := by rw [q_up_j (by omega)]; exact b4
        simp only [u161_0, u161_1, u161_4, u161_5, u161_8, u161_9, u161_12, u161_13, u161_14, u161_15, u161_18, u161_19, u161_20, u161_23, u161_24, u161_25, u161_28, u161_29, u161_30, u161_33, u161_34, u161_36, u161_39, u161_40, u161_43, u161_44, u161_47, u161_50, u161_53, u161_54, u161_57, u161_58, u161_60, u161_63, u161_66, u161_67, u161_70, u161_71, u161_72, u161_75, u161_76, u161_77, u161_80, u164_0, u164_1, u164_4, u164_5, u164_6, u164_8, u164_11, u164_12, u164_14, u164_17, u164_18, u164_19, u164_22, u164_23, u164_24, u164_25, u164_28, u164_29, u164_30, u164_33, u164_34, u164_35, u164_38, u164_39, u164_40, u164_43, u164_44, u164_47, u164_48, u164_49, u164_52, u164_53, u164_54, u164_55, u164_56, u164_60, u164_61, u164_64, u164_65, u164_68, u164_69, u164_72, u164_75, u164_78, u164_81, u164_83, u164_84, u164_85, u164_86, u164_89, u164_90, u164_92, u164_93, u164_94, u164_95, u164_96, u164_99, u164_100, u164_101, u164_104, u164_107, u164_110, u164_112, u164_115, u164_116, u164_119, u164_120, u164_121, u164_124, ly_kd, ly_al, ly_fv0, ly_fv1, ly_fv2, ly_fv3, ly_fv4, ly_fk, ly_ra, Option.toList, List.cons_append, List.nil_append, q_ski, q_skr, q_sku, if_true, if_false, m_takesF (show (q_txt A t p (pos + 1) n C).2.1 < 100 by omega) b3 (show ¬ (-1 : Int32) = 41 by decide), m_wrongF (show (q_txt A t p (pos + 1) n C).2.1 < 100 by omega) b3, e9, os]
        exact h _ ((fa.tr q_mf_8).tr q_mf_9) (fun z => absurd z e2) (fun _ => ⟨by rw [q_up_j (by omega)]; exact q_up_same, q_up_same⟩)
    · rw [if_neg g2] at h
      exact m_base (d := d + 2) hA h50 hu hc hn ht g1 g2 h
theorem m_lst {A : Nat → Int32} {t u : Nat} (hA : q_by8s A t) (h50 : t ≤ 50) (hu : u = 0 ∨ u = 1) : ∀ k d, k ≤ 5 → q_TM A t u (d + 3 + 7 * k) 164 (5 - k) (q_lst A t u k)
  | 0, d, _ => m_leaf hA h50 hu
  | k + 1, d, h => by
    have ih1 := m_lst (u := u) hA h50 hu k (d + 5) (by omega)
    have ih2 := m_lst (u := u) hA h50 hu k d (by omega)
    have hG := q_G_lst (u := u) hA h50 k
    rw [show d + 5 + 3 + 7 * k = d + 6 + 7 * k + 2 by omega, show 5 - k = 5 - (k + 1) + 1 by omega] at ih1
    rw [show d + 3 + 7 * k = d + 1 + 7 * k + 2 by omega, show 5 - k = 5 - (k + 1) + 1 by omega] at ih2
    have hx := m_txt hA h50 hG ih2
    rw [show d + 1 + 7 * k + 7 = d + 6 + 7 * k + 2 by omega] at hx
    have := m_unitS (d := d + 6 + 7 * k) (op := 5 - (k + 1)) hA h50 hu (by omega) hG ih1 hx
    rw [show d + 6 + 7 * k + 4 = d + 3 + 7 * (k + 1) by omega] at this
    exact this
theorem m_reads {A : Nat → Int32} {t u d : Nat} {R : gR} {μ : gM} (hA : q_by8s A t) (h50 : t ≤ 50) (hu : u = 0 ∨ u = 1) (h84 : ∀ j, j < t → μ 84 (197 + j) = A j) (h : ∀ μ', (∀ o, o ≠ 83 → o ≠ 89 → μ' o = μ o) → (∀ j, j < 5 ∨ 13 < j → μ' 83 j = μ 83 j) → μ' 83 8 = q_flt t (q_whl A t u) → ((q_whl A t u).1 = true → μ' 83 13 = nI (q_whl A t u).2.2.1 ∧ ∀ j, j < (q_whl A t u).2.2.1 → μ' 89 j = (q_whl A t u).2.2.2 j) → R none μ') : gc_S (d + 44) 165 [.ref 83, .int 197, .int (nI t), .int (nI u)] μ R := by
  have hG := q_G_txt hA (q_G_lst (u := u) hA h50 5)
  have hT : q_TM A t u (d + 43) 160 0 (q_txt A t (q_lst A t u 5)) := m_txt (e := d + 36) hA h50 (q_G_lst (u := u) hA h50 5) (m_lst hA h50 hu 5 d (by omega))
  have gg : q_g1 t 0 0 (fun _ => 0) (q_whl A t u) := hG 0 0 (fun _ => 0) (by omega) (by omega)
  have gt := gg.2.1
  have fin : ∀ μ0 : gM, (∀ o, o ≠ 83 → o ≠ 89 → μ0 o = μ o) → (∀ j, j < 5 ∨ 13 < j → μ0 83 j = μ 83 j) → q_ms A t u 0 0 0 (fun _ => 0) μ0 → gc_W (gc_S (d+43)) cX12_reads 12 2 R 45 [.ref 83, .int 197, .int (nI t), .int (nI u)] [.ref 83] μ0 := fun μ0 f0 j0 c0 => by
    simp only [u165_0, u165_1, u165_2, u165_5, u165_6, u165_7, u165_10, u165_11, u165_12, u165_15, u165_16, u165_17, u165_20, u165_21, u165_22, u165_25, u165_26, u165_27, u165_30, u165_31, u165_32, u165_33, u165_36, u165_37, u165_40, u165_41, u165_44, u165_45, u165_48, u165_49, u165_52, u165_55, u165_56, u165_59, u165_60, u165_63, u165_66, u165_67, u165_70, ly_kd, ly_al, ly_fv0, ly_fv1, ly_fv2, ly_fv3, ly_fv4, ly_fk, ly_ra, Option.toList, List.cons_append, List.nil_append, q_ski, q_skr, q_sku, if_true, if_false]
    refine hT μ0 _ 0 0 (fun _ => 0) c0 (by omega) (by omega) (fun μ1 f1 a1 b1 => ?_)
    have a1 : (q_whl A t u).1 = true → q_ms A t u 0 (q_whl A t u).2.1 (q_whl A t u).2.2.1 (q_whl A t u).2.2.2 μ1 := a1
    have b1 : ¬ (q_whl A t u).1 = true → μ1 83 8 = nI (q_whl A t u).2.1 ∧ μ1 83 9 = nI 0 := b1
    have fa : ∀ o, o ≠ 83 → o ≠ 89 → μ1 o = μ o := fun o a b => (f1.1 o a b).trans (f0 o a b)
    have ja : ∀ j, j < 5 ∨ 13 < j → μ1 83 j = μ 83 j := fun j hj => (f1.2 j (by omega) (by omega) (by omega) (by omega)).trans (j0 j hj)
    have ft := q_mt_mf c0.1 f1
    unfold q_flt at h
    by_cases e : (q_whl A t u).1 = true
    · have c1 := a1 e
      by_cases e2 : (q_whl A t u).2.1 = t
      · rw [if_pos ⟨e, e2⟩] at h
        have h6 : μ1 83 6 = nI t := by rw [c1.2.2.2.1, e2]
        simp only [u165_0, u165_1, u165_2, u165_5, u165_6, u165_7, u165_10, u165_11, u165_12, u165_15, u165_16, u165_17, u165_20, u165_21, u165_22, u165_25, u165_26, u165_27, u165_30, u165_31, u165_32, u165_33, u165_36, u165_37, u165_40, u165_41, u165_44, u165_45, u165_48, u165_49, u165_52, u165_55, u165_56, u165_59, u165_60, u165_63, u165_66, u165_67, u165_70, ly_kd, ly_al, ly_fv0, ly_fv1, ly_fv2, ly_fv3, ly_fv4, ly_fk, ly_ra, Option.toList, List.cons_append, List.nil_append, q_ski, q_skr, q_sku, if_true, if_false, c1.2.2.1, q_m1, h6, ft.2.1, show nI t ≤ nI t from Int32.le_refl _]
        exact h μ1 fa ja c1.2.2.1 (fun _ => ⟨c1.2.2.2.2.1, c1.2.2.2.2.2⟩)
      · rw [if_neg (fun z => e2 z.2)] at h
        have ne : ¬ nI t ≤ nI (q_whl A t u).2.1 := nI_ge (by omega) (by omega)
        simp only [u165_0, u165_1, u165_2, u165_5, u165_6, u165_7, u165_10, u165_11, u165_12, u165_15, u165_16, u165_17, u165_20, u165_21, u165_22, u165_25, u165_26, u165_27, u165_30, u165_31, u165_32, u165_33, u165_36, u165_37, u165_40, u165_41, u165_44, u165_45, u165_48, u165_49, u165_52, u165_55, u165_56, u165_59, u165_60, u165_63, u165_66, u165_67, u165_70, ly_kd, ly_al, ly_fv0, ly_fv1, ly_fv2, ly_fv3, ly_fv4, ly_fk, ly_ra, Option.toList, List.cons_append, List.nil_append, q_ski, q_skr, q_sku, if_true, if_false, c1.2.2.1, q_m1, c1.2.2.2.1, ft.2.1, ne, m_wrong c1.2.2.1 c1.2.2.2.1]
        exact h _ (fun o a b => by rw [gc_up_ne a]; exact fa o a b) (fun j hj => by rw [q_up_j (by omega)]; exact ja j hj) q_up_same (fun _ => ⟨by rw [q_up_j (by omega)]; exact c1.2.2.2.2.1, fun j hj => by rw [q_up_o (by omega)]; exact c1.2.2.2.2.2 j hj⟩)
    · rw [if_neg (fun z => e z.1)] at h
      simp only [u165_0, u165_1, u165_2, u165_5, u165_6, u165_7, u165_10, u165_11, u165_12, u165_15, u165_16, u165_17, u165_20, u165_21, u165_22, u165_25, u165_26, u165_27, u165_30, u165_31, u165_32, u165_33, u165_36, u165_37, u165_40, u165_41, u165_44, u165_45, u165_48, u165_49, u165_52, u165_55, u165_56, u165_59, u165_60, u165_63, u165_66, u165_67, u165_70, ly_kd, ly_al, ly_fv0, ly_fv1, ly_fv2, ly_fv3, ly_fv4, ly_fk, ly_ra, Option.toList, List.cons_append, List.nil_append, q_ski, q_skr, q_sku, if_true, if_false, (b1 e).1, show (0 : Int32) ≤ nI (q_whl A t u).2.1 from nI_pos' (by omega)]
      exact h μ1 fa ja (b1 e).1 (fun z => absurd z e)
  have go : ∀ v : Int32, v = nI u → (nI u = 1 → v = 1) → (¬ nI u = 1 → v = 0) → gc_S (d + 44) 165 [.ref 83, .int 197, .int (nI t), .int (nI u)] μ R := fun v ev v1 v0 => by
    have st : gc_W (gc_S (d+43)) cX12_reads 12 2 R 45 [.ref 83, .int 197, .int (nI t), .int (nI u)] [.ref 83] (gc_up (gc_up (gc_up (gc_up (gc_up (gc_up (gc_up μ 83 5 197) 83 6 0) 83 7 (nI t)) 83 8 (-1)) 83 9 0) 83 13 0) 83 10 v) := by
      refine fin _ (fun o a b => by rw [gc_up_ne a, gc_up_ne a, gc_up_ne a, gc_up_ne a, gc_up_ne a, gc_up_ne a, gc_up_ne a]) (fun j hj => by rw [q_up_j (by omega), q_up_j (by omega), q_up_j (by omega), q_up_j (by omega), q_up_j (by omega), q_up_j (by omega), q_up_j (by omega)]) ⟨⟨?_, ?_, ?_, fun j hj => ?_⟩, ?_, ?_, ?_, ?_, fun j hj => absurd hj (by omega)⟩
      · rw [q_up_j (by omega), q_up_j (by omega), q_up_j (by omega), q_up_j (by omega), q_up_j (by omega), q_up_j (by omega), q_up_same]; rfl
      · rw [q_up_j (by omega), q_up_j (by omega), q_up_j (by omega), q_up_j (by omega), q_up_same]
      · rw [q_up_same]; exact ev
      · rw [q_up_o (by omega), q_up_o (by omega), q_up_o (by omega), q_up_o (by omega), q_up_o (by omega), q_up_o (by omega), q_up_o (by omega)]; exact h84 j hj
      · rw [q_up_j (by omega), q_up_j (by omega), q_up_same]; rfl
      · rw [q_up_j (by omega), q_up_j (by omega), q_up_j (by omega), q_up_same]
      · rw [q_up_j (by omega), q_up_j (by omega), q_up_j (by omega), q_up_j (by omega), q_up_j (by omega), q_up_same]; rfl
      · rw [q_up_j (by omega), q_up_same]; rfl
    refine s165.mpr ?_
    by_cases z : nI u = 1
    · rw [v1 z] at st
      simp only [u165_0, u165_1, u165_2, u165_5, u165_6, u165_7, u165_10, u165_11, u165_12, u165_15, u165_16, u165_17, u165_20, u165_21, u165_22, u165_25, u165_26, u165_27, u165_30, u165_31, u165_32, u165_33, u165_36, u165_37, u165_40, u165_41, u165_44, u165_48, u165_49, u165_52, u165_55, u165_56, u165_59, u165_60, u165_63, u165_66, u165_67, u165_70, ly_kd, ly_al, ly_fv0, ly_fv1, ly_fv2, ly_fv3, ly_fv4, ly_fk, ly_ra, Option.toList, List.cons_append, List.nil_append, q_ski, q_skr, q_sku, if_true, if_false, z, or_true, true_or, true_and]
      rw [z] at st
      exact st
    · rw [v0 z] at st
      simp only [u165_0, u165_1, u165_2, u165_5, u165_6, u165_7, u165_10, u165_11, u165_12, u165_15, u165_16, u165_17, u165_20, u165_21, u165_22, u165_25, u165_26, u165_27, u165_30, u165_31, u165_32, u165_33, u165_36, u165_37, u165_40, u165_41, u165_44, u165_48, u165_49, u165_52, u165_55, u165_56, u165_59, u165_60, u165_63, u165_66, u165_67, u165_70, ly_kd, ly_al, ly_fv0, ly_fv1, ly_fv2, ly_fv3, ly_fv4, ly_fk, ly_ra, Option.toList, List.cons_append, List.nil_append, q_ski, q_skr, q_sku, if_true, if_false, z, or_true, true_or, true_and]
      exact st
  rcases hu with rfl | rfl
  · exact go 0 rfl (fun z => absurd z (by decide)) (fun _ => rfl)
  · exact go 1 rfl (fun _ => rfl) (fun z => absurd rfl z)
