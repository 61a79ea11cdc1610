def q_al (D : Nat → Int32) (w : Int32) : Int32 :=
  if w = 0 then q_sum (fun c => D (5 + 1 * c)) 16 else if w = 1 then q_sum (fun k => D (45 + 4 * k)) (D 0).toNatClampNeg
  else q_sum (fun k => (q_set (fun c => decide (0 < D (5 + c))) 16 >>> (nI k &&& 31)) &&& 1) 16
theorem m_all {d : Nat} {R : gR} {μ : gM} {n w : Int32} {y : Nat} (hok : q_ok (μ 84)) (hy : μ 84 1 = nI y) (hy2 : y ≤ 10000) (h : if (0 ≤ n ∧ n ≤ 60) ∧ 0 ≤ w ∧ w ≤ 2 then ∀ μ', q_f2 μ μ' → R (some (.int (q_al (q_yrs (μ 84) n.toNatClampNeg) w))) μ' else R (some (.int (-1000000001))) (gc_up μ 87 1 (μ 87 1 + 1))) : gc_S (d + 8) 204 [.ref 83, .int n, .int w] μ R := by
  simp only [s204, u204_0, u204_1, u204_4, u204_7, u204_8, u204_9, u204_10, u204_13, u204_16, u204_19, u204_20, u204_21, u204_24, u204_25, u204_26, u204_29, u204_30, u204_31, u204_34, u204_35, u204_38, u204_39, u204_42, u204_45, u204_46, u204_47, u204_50, u204_51, u204_53, u204_54, u204_57, u204_58, u204_59, u204_60, u204_63, u204_66, u204_67, u204_70, u204_73, u204_74, u204_75, u204_78, u204_79, ly_kd, ly_al, ly_fv0, ly_fv1, ly_fv2, ly_fv3, ly_fv4, ly_fk, ly_ra, Option.toList, List.cons_append, List.nil_append, q_ski, q_skr, q_sku, if_true, if_false, m_isAhead, m_in, m_f1, m_keepAside, q_b0, q_not, q_wl0, q_wl1, q_wl48, q_wu1, q_wu2, q_wu3, q_wu5, q_wu6, q_wu7, q_wu8, q_wu15, q_wu30, q_wu40, q_wu57, q_wu60, q_wu69, q_wu99, q_wu1584, fa_wide_le]
  by_cases h1 : 0 ≤ n ∧ n ≤ 60
  · by_cases h2 : 0 ≤ w ∧ w ≤ 2
    · rw [if_pos ⟨h1, h2⟩] at h
      obtain ⟨j, hj, rfl⟩ := q_rng (n := 60) rfl h1
      rw [nI_clamp (by omega)] at h
      simp only [h1, h2, and_self, if_true]
      refine m_yearsGo (by rw [q_as]; exact hok) (by rw [q_as]; exact hy) (by omega) (fun μ1 k1 k2 => ?_)
      rw [q_as] at k2
      have hb := h _ (q_back k1 (fun j' hj' => by rw [k2]; exact q_yrs_hi hok hy hj' j (by omega)))
      obtain ⟨⟨m, hm, hm8⟩, -⟩ := (q_ok_yrs hok hy j (by omega)).1
      have a0 : μ1 84 0 = nI m := by rw [k2]; exact hm
      unfold q_al at hb
      by_cases w0 : w = 0
      · rw [if_pos w0] at hb
        simp only [u204_0, u204_1, u204_4, u204_7, u204_8, u204_9, u204_10, u204_13, u204_16, u204_19, u204_20, u204_21, u204_24, u204_25, u204_26, u204_29, u204_30, u204_31, u204_34, u204_35, u204_38, u204_39, u204_42, u204_45, u204_46, u204_47, u204_50, u204_51, u204_53, u204_54, u204_57, u204_58, u204_59, u204_60, u204_63, u204_66, u204_67, u204_70, u204_73, u204_74, u204_75, u204_78, u204_79, ly_kd, ly_al, ly_fv0, ly_fv1, ly_fv2, ly_fv3, ly_fv4, ly_fk, ly_ra, Option.toList, List.cons_append, List.nil_append, q_ski, q_skr, q_sku, if_true, if_false, w0, m_allWet, m_putBack]
        rw [k2]; exact hb
      · rw [if_neg w0] at hb
        by_cases w1 : w = 1
        · rw [if_pos w1, hm, nI_clamp (by omega)] at hb
          simp only [u204_0, u204_1, u204_4, u204_7, u204_8, u204_9, u204_10, u204_13, u204_16, u204_19, u204_20, u204_21, u204_24, u204_25, u204_26, u204_29, u204_30, u204_31, u204_34, u204_35, u204_38, u204_39, u204_42, u204_45, u204_46, u204_47, u204_50, u204_51, u204_53, u204_54, u204_57, u204_58, u204_59, u204_60, u204_63, u204_66, u204_67, u204_70, u204_73, u204_74, u204_75, u204_78, u204_79, ly_kd, ly_al, ly_fv0, ly_fv1, ly_fv2, ly_fv3, ly_fv4, ly_fk, ly_ra, Option.toList, List.cons_append, List.nil_append, q_ski, q_skr, q_sku, if_true, if_false, w0, w1, q_v247, q_tn, true_and, a0, show ¬ (1 : Int32) = 0 by decide]
          rw [show (45 : Int32) = nI 45 from rfl, show (4 : Int32) = nI 4 from rfl, m_sumOf (fun k hk => by omega) (by omega) (by omega) (by omega)]
          simp only [u204_0, u204_1, u204_4, u204_7, u204_8, u204_9, u204_10, u204_13, u204_16, u204_19, u204_20, u204_21, u204_24, u204_25, u204_26, u204_29, u204_30, u204_31, u204_34, u204_35, u204_38, u204_39, u204_42, u204_45, u204_46, u204_47, u204_50, u204_51, u204_53, u204_54, u204_57, u204_58, u204_59, u204_60, u204_63, u204_66, u204_67, u204_70, u204_73, u204_74, u204_75, u204_78, u204_79, ly_kd, ly_al, ly_fv0, ly_fv1, ly_fv2, ly_fv3, ly_fv4, ly_fk, ly_ra, Option.toList, List.cons_append, List.nil_append, q_ski, q_skr, q_sku, if_true, if_false, m_putBack]
          rw [k2]; exact hb
        · rw [if_neg w1] at hb
          simp only [u204_0, u204_1, u204_4, u204_7, u204_8, u204_9, u204_10, u204_13, u204_16, u204_19, u204_20, u204_21, u204_24, u204_25, u204_26, u204_29, u204_30, u204_31, u204_34, u204_35, u204_38, u204_39, u204_42, u204_45, u204_46, u204_47, u204_50, u204_51, u204_53, u204_54, u204_57, u204_58, u204_59, u204_60, u204_63, u204_66, u204_67, u204_70, u204_73, u204_74, u204_75, u204_78, u204_79, ly_kd, ly_al, ly_fv0, ly_fv1, ly_fv2, ly_fv3, ly_fv4, ly_fk, ly_ra, Option.toList, List.cons_append, List.nil_append, q_ski, q_skr, q_sku, if_true, if_false, w0, w1, m_wetCells, m_ones, m_putBack]
          rw [k2]; exact hb
    · rw [if_neg (fun q => h2 q.2)] at h
      simp only [h1, h2, and_self, if_true, if_false]
      exact h
  · rw [if_neg (fun q => h1 q.1)] at h
    simp only [h1, if_false]
    exact h
