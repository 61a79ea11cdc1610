/-! texts that are read: numbers, names, what is least -/
theorem q_c16 : ∀ b, b < 256 → ((nI b).toUInt32 % 65536).toInt32 = nI b := by decide +kernel
theorem q_sb119 : ∀ b, b < 256 → ((119 : Int32) = (nI b).toInt8.toInt32 ↔ nI b = 119) := by decide +kernel
theorem q_sb115 : ∀ b, b < 256 → ((115 : Int32) = (nI b).toInt8.toInt32 ↔ nI b = 115) := by decide +kernel
theorem q_sb110 : ∀ b, b < 256 → ((110 : Int32) = (nI b).toInt8.toInt32 ↔ nI b = 110) := by decide +kernel
theorem q_sb121 : ∀ b, b < 256 → ((121 : Int32) = (nI b).toInt8.toInt32 ↔ nI b = 121) := by decide +kernel
theorem q_255 : ∀ b, b < 256 → ¬ nI b < 0 ∧ ¬ (255 : Int32) < nI b := by decide +kernel
theorem q_fvs : gc_fv 103 1 (fun _ _ => 0) = .int 0 ∧ gc_fv 104 1 (fun _ _ => 0) = .int 0 ∧ gc_fv 103 0 (fun _ _ => 0) = .ref 106 ∧ gc_fv 104 0 (fun _ _ => 0) = .ref 107 := ⟨rfl, rfl, rfl, rfl⟩
theorem q_ros : gc_ro 106 0 = 119 ∧ gc_ro 106 1 = 115 ∧ gc_ro 106 2 = 121 ∧ gc_ro 107 0 = 119 ∧ gc_ro 107 1 = 110 ∧ gc_ro 107 2 = 121 := ⟨rfl, rfl, rfl, rfl, rfl, rfl⟩
theorem t_lenS {d : Nat} {R : gR} {μ : gM} {u : Nat} (hu : u = 0 ∨ u = 1) : gc_S (d + 2) 251 [.ref (103 + u)] μ R ↔ R (some (.int 3)) μ := by
  rcases hu with rfl | rfl
  · simp only [s251, u251_0, u251_1, u251_4, u251_5, u251_6, u251_9, u251_10, s53, u53_0, u53_3, u53_6, u53_7, u53_10, u53_13, u53_14, ly_kd, ly_al, ly_fv0, ly_fv1, ly_fv2, ly_fv3, ly_fv4, ly_fk, ly_ra, Option.toList, List.cons_append, List.nil_append, q_ski, q_skr, q_sku, if_true, if_false, q_fvs, show ¬ (1 : Int32) = 0 by decide, true_or, true_and, show nI 3 >>> ((0 : Int32) &&& 31) = 3 by decide, Nat.reduceAdd]
  · simp only [s251, u251_0, u251_1, u251_4, u251_5, u251_6, u251_9, u251_10, s53, u53_0, u53_3, u53_6, u53_7, u53_10, u53_13, u53_14, ly_kd, ly_al, ly_fv0, ly_fv1, ly_fv2, ly_fv3, ly_fv4, ly_fk, ly_ra, Option.toList, List.cons_append, List.nil_append, q_ski, q_skr, q_sku, if_true, if_false, q_fvs, show ¬ (1 : Int32) = 0 by decide, true_or, true_and, show nI 3 >>> ((0 : Int32) &&& 31) = 3 by decide, Nat.reduceAdd]
set_option maxHeartbeats 1000000 in
theorem t_idx {d : Nat} {R : gR} {μ : gM} {u b : Nat} (hu : u = 0 ∨ u = 1) (hb : b < 256) : gc_S (d + 5) 58 [.ref (103 + u), .int (nI b)] μ R ↔ R (some (.int (q_nm u (nI b)))) μ := by
  have lat : ∀ (d : Nat) (R : gR), gc_S (d + 1) 52 [.ref (103 + u)] μ R ↔ R (some (.int 1)) μ := fun d R => by
    rcases hu with rfl | rfl
    · simp only [s52, u52_0, u52_3, u52_6, u52_7, u52_10, u52_13, u52_14, u52_17, u52_18, ly_kd, ly_al, ly_fv0, ly_fv1, ly_fv2, ly_fv3, ly_fv4, ly_fk, ly_ra, Option.toList, List.cons_append, List.nil_append, q_ski, q_skr, q_sku, if_true, if_false, q_fvs, show ¬ (1 : Int32) = 0 by decide, or_true, true_and, Nat.reduceAdd]
    · simp only [s52, u52_0, u52_3, u52_6, u52_7, u52_10, u52_13, u52_14, u52_17, u52_18, ly_kd, ly_al, ly_fv0, ly_fv1, ly_fv2, ly_fv3, ly_fv4, ly_fk, ly_ra, Option.toList, List.cons_append, List.nil_append, q_ski, q_skr, q_sku, if_true, if_false, q_fvs, show ¬ (1 : Int32) = 0 by decide, or_true, true_and, Nat.reduceAdd]
  have chr : ∀ (d : Nat) (R : gR), gc_S (d + 1) 55 [.ref (106 + u), .int (nI b), .int 0, .int 3] μ R ↔ R (some (.int (q_nm u (nI b)))) μ := fun d R => by
    simp only [s55, u55_0, u55_1, u55_2, u55_4, u55_5, u55_9, u55_10, u55_13, u55_14, u55_16, u55_17, u55_19, u55_22, u55_24, u55_25, u55_28, u55_31, u55_32, ly_kd, ly_al, ly_fv0, ly_fv1, ly_fv2, ly_fv3, ly_fv4, ly_fk, ly_ra, Option.toList, List.cons_append, List.nil_append, q_ski, q_skr, q_sku, if_true, if_false]
    have v0 : vp_in 0 3 := vp_in_nI (n := 0) (by omega) (by decide)
    have v1 : vp_in 1 3 := vp_in_nI (n := 1) (by omega) (by decide)
    have v2 : vp_in 2 3 := vp_in_nI (n := 2) (by omega) (by decide)
    unfold q_nm
    refine (u55_7).trans ?_
    rcases hu with rfl | rfl
    · simp only [u55_0, u55_1, u55_2, u55_4, u55_5, u55_9, u55_10, u55_13, u55_14, u55_16, u55_17, u55_19, u55_22, u55_24, u55_25, u55_28, u55_31, u55_32, ly_kd, ly_al, ly_fv0, ly_fv1, ly_fv2, ly_fv3, ly_fv4, ly_fk, ly_ra, Option.toList, List.cons_append, List.nil_append, q_ski, q_skr, q_sku, if_true, if_false, Nat.reduceAdd, show ¬ (3 : Int32) ≤ 0 by decide, if_false, v0, true_and, show (0 : Int32).toNatClampNeg = 0 by decide, q_ros, q_sb119 b hb]
      by_cases g1 : nI b = 119
      · simp only [g1, if_true]
      · simp only [g1, if_false]
        refine (u55_7).trans ?_
        simp only [u55_0, u55_1, u55_2, u55_4, u55_5, u55_9, u55_10, u55_13, u55_14, u55_16, u55_17, u55_19, u55_22, u55_24, u55_25, u55_28, u55_31, u55_32, ly_kd, ly_al, ly_fv0, ly_fv1, ly_fv2, ly_fv3, ly_fv4, ly_fk, ly_ra, Option.toList, List.cons_append, List.nil_append, q_ski, q_skr, q_sku, if_true, if_false, show ¬ (3 : Int32) ≤ 1 by decide, if_false, show (0 : Int32) + 1 = 1 by decide, v1, true_and, show (1 : Int32).toNatClampNeg = 1 by decide, q_ros, q_sb115 b hb]
        by_cases g2 : nI b = 115
        · simp only [g2, if_true]
        · simp only [g2, if_false]
          refine (u55_7).trans ?_
          simp only [u55_0, u55_1, u55_2, u55_4, u55_5, u55_9, u55_10, u55_13, u55_14, u55_16, u55_17, u55_19, u55_22, u55_24, u55_25, u55_28, u55_31, u55_32, ly_kd, ly_al, ly_fv0, ly_fv1, ly_fv2, ly_fv3, ly_fv4, ly_fk, ly_ra, Option.toList, List.cons_append, List.nil_append, q_ski, q_skr, q_sku, if_true, if_false, show ¬ (3 : Int32) ≤ 2 by decide, if_false, show (1 : Int32) + 1 = 2 by decide, v2, true_and, show (2 : Int32).toNatClampNeg = 2 by decide, q_ros, q_sb121 b hb]
          by_cases g3 : nI b = 121
          · simp only [g3, if_true]
          · simp only [g3, if_false]
            refine (u55_7).trans ?_
            simp only [u55_0, u55_1, u55_2, u55_4, u55_5, u55_9, u55_10, u55_13, u55_14, u55_16, u55_17, u55_19, u55_22, u55_24, u55_25, u55_28, u55_31, u55_32, ly_kd, ly_al, ly_fv0, ly_fv1, ly_fv2, ly_fv3, ly_fv4, ly_fk, ly_ra, Option.toList, List.cons_append, List.nil_append, q_ski, q_skr, q_sku, if_true, if_false, show (2 : Int32) + 1 = 3 by decide, show (3 : Int32) ≤ 3 by decide, if_true]
    · simp only [u55_0, u55_1, u55_2, u55_4, u55_5, u55_9, u55_10, u55_13, u55_14, u55_16, u55_17, u55_19, u55_22, u55_24, u55_25, u55_28, u55_31, u55_32, ly_kd, ly_al, ly_fv0, ly_fv1, ly_fv2, ly_fv3, ly_fv4, ly_fk, ly_ra, Option.toList, List.cons_append, List.nil_append, q_ski, q_skr, q_sku, if_true, if_false, Nat.reduceAdd, show ¬ (3 : Int32) ≤ 0 by decide, if_false, v0, true_and, show (0 : Int32).toNatClampNeg = 0 by decide, q_ros, q_sb119 b hb]
      by_cases g1 : nI b = 119
      · simp only [g1, if_true]
      · simp only [g1, if_false]
        refine (u55_7).trans ?_
        simp only [u55_0, u55_1, u55_2, u55_4, u55_5, u55_9, u55_10, u55_13, u55_14, u55_16, u55_17, u55_19, u55_22, u55_24, u55_25, u55_28, u55_31, u55_32, ly_kd, ly_al, ly_fv0, ly_fv1, ly_fv2, ly_fv3, ly_fv4, ly_fk, ly_ra, Option.toList, List.cons_append, List.nil_append, q_ski, q_skr, q_sku, if_true, if_false, show ¬ (3 : Int32) ≤ 1 by decide, if_false, show (0 : Int32) + 1 = 1 by decide, v1, true_and, show (1 : Int32).toNatClampNeg = 1 by decide, q_ros, q_sb110 b hb, show ¬ (1 : Nat) = 0 by decide]
        by_cases g2 : nI b = 110
        · simp only [g2, if_true]
        · simp only [g2, if_false]
          refine (u55_7).trans ?_
          simp only [u55_0, u55_1, u55_2, u55_4, u55_5, u55_9, u55_10, u55_13, u55_14, u55_16, u55_17, u55_19, u55_22, u55_24, u55_25, u55_28, u55_31, u55_32, ly_kd, ly_al, ly_fv0, ly_fv1, ly_fv2, ly_fv3, ly_fv4, ly_fk, ly_ra, Option.toList, List.cons_append, List.nil_append, q_ski, q_skr, q_sku, if_true, if_false, show ¬ (3 : Int32) ≤ 2 by decide, if_false, show (1 : Int32) + 1 = 2 by decide, v2, true_and, show (2 : Int32).toNatClampNeg = 2 by decide, q_ros, q_sb121 b hb]
          by_cases g3 : nI b = 121
          · simp only [g3, if_true]
          · simp only [g3, if_false]
            refine (u55_7).trans ?_
            simp only [u55_0, u55_1, u55_2, u55_4, u55_5, u55_9, u55_10, u55_13, u55_14, u55_16, u55_17, u55_19, u55_22, u55_24, u55_25, u55_28, u55_31, u55_32, ly_kd, ly_al, ly_fv0, ly_fv1, ly_fv2, ly_fv3, ly_fv4, ly_fk, ly_ra, Option.toList, List.cons_append, List.nil_append, q_ski, q_skr, q_sku, if_true, if_false, show (2 : Int32) + 1 = 3 by decide, show (3 : Int32) ≤ 3 by decide, if_true]
  have k1 : gc_kd (103 + u) = 32 := by rcases hu with rfl | rfl <;> rfl
  have k2 : gc_kd (106 + u) = 33 := by rcases hu with rfl | rfl <;> rfl
  have k3 : gc_al (106 + u) = 3 := by rcases hu with rfl | rfl <;> rfl
  have k4 : gc_fv (103 + u) 0 (fun _ _ => 0) = .ref (106 + u) := by rcases hu with rfl | rfl <;> rfl
  simp only [s58, u58_0, u58_1, u58_2, u58_3, u58_6, s57, u57_0, u57_1, u57_4, u57_7, u57_8, u57_11, u57_12, u57_13, u57_14, u57_17, u57_20, u57_23, u57_24, u57_27, u57_28, u57_29, u57_30, u57_36, k1, lat, ly_kd, ly_al, ly_fv0, ly_fv1, ly_fv2, ly_fv3, ly_fv4, ly_fk, ly_ra, Option.toList, List.cons_append, List.nil_append, q_ski, q_skr, q_sku, if_true, if_false, show ¬ (1 : Int32) = 0 by decide, k4, t_lenS hu, s56, u56_0, u56_1, u56_4, u56_7, u56_8, u56_9, u56_10, u56_11, u56_14, u56_15, u56_16, u56_17, u56_18, u56_21, u56_22, u56_23, u56_24, u56_27, u56_28, u56_29, u56_30, u56_31, u56_32, u56_33, u56_36, s54, u54_0, u54_1, u54_4, u54_5, u54_8, u54_11, u54_12, u54_15, u54_16, q_255 b hb, or_true, true_and, if_false, k2, k3, show ¬ (0 : Int32) < 0 by decide, show ¬ nI 3 < 3 by decide, show ¬ (3 : Int32) < nI 3 by decide, show nI 3 = 3 by decide, show ¬ (3 : Int32) < 3 by decide, show (0 : Int32) < 3 by decide, chr]
theorem t_number {d : Nat} {R : gR} {μ : gM} {A : Nat → Int32} {t u pos n : Nat} {C : Nat → Int32} (hA : q_by8s A t) (h50 : t ≤ 50) (hc : q_cs A t u pos n C μ) (hn : n < 50) (ht : pos ≤ t) (h : ∀ μ', q_cf μ μ' → μ' 27 4 = nI (q_rd A 4 pos 0).1 → μ' 28 1 = nI (n + 1) → (∀ j, j < n + 1 → μ' 29 j = q_enc (upd C n (nI (q_rd A 4 pos 0).2) j)) → R none μ') : gc_S (d + 2) 51 [.ref 27] μ R := by
  simp only [s51, u51_0, u51_1, u51_2, u51_3, u51_5, u51_6, u51_9, u51_10, u51_13, u51_15, u51_18, u51_19, u51_22, u51_24, u51_27, u51_28, u51_30, u51_31, u51_32, u51_35, u51_36, u51_38, u51_39, u51_40, u51_41, u51_44, u51_47, u51_50, u51_51, u51_54, u51_55, u51_58, ly_kd, ly_al, ly_fv0, ly_fv1, ly_fv2, ly_fv3, ly_fv4, ly_fk, ly_ra, Option.toList, List.cons_append, List.nil_append, q_ski, q_skr, q_sku, if_true, if_false]
  have fin : ∀ p1 v μ1, v < 10000 → q_cf μ μ1 → q_cs A t u p1 n C μ1 → p1 = (q_rd A 4 pos 0).1 → v = (q_rd A 4 pos 0).2 → ∀ l2, gc_W (gc_S (d+1)) cX2_readNumber 2 2 R 50 [.ref 27, .int (nI v), l2] [] μ1 := fun p1 v μ1 hv f1 c1 e1 e2 l2 => by
    refine (u51_50).mpr ?_
    simp only [u51_0, u51_1, u51_2, u51_3, u51_5, u51_6, u51_9, u51_10, u51_13, u51_15, u51_18, u51_19, u51_22, u51_24, u51_27, u51_28, u51_30, u51_31, u51_32, u51_35, u51_36, u51_38, u51_39, u51_40, u51_41, u51_44, u51_47, u51_50, u51_51, u51_54, u51_55, u51_58, ly_kd, ly_al, ly_fv0, ly_fv1, ly_fv2, ly_fv3, ly_fv4, ly_fk, ly_ra, Option.toList, List.cons_append, List.nil_append, q_ski, q_skr, q_sku, if_true, if_false]
    refine t_add28 (show n ≤ 50 by omega) c1.2.2.1 (fun μ3 f3 e27 a3 m3 => ?_)
    simp only [u51_0, u51_1, u51_2, u51_3, u51_5, u51_6, u51_9, u51_10, u51_13, u51_15, u51_18, u51_19, u51_22, u51_24, u51_27, u51_28, u51_30, u51_31, u51_32, u51_35, u51_36, u51_38, u51_39, u51_40, u51_41, u51_44, u51_47, u51_50, u51_51, u51_54, u51_55, u51_58, ly_kd, ly_al, ly_fv0, ly_fv1, ly_fv2, ly_fv3, ly_fv4, ly_fk, ly_ra, Option.toList, List.cons_append, List.nil_append, q_ski, q_skr, q_sku, if_true, if_false]
    have := a3 hn
    have cs := q_cs_add (z := nI v) c1.1 f3 (by rw [e27]; exact c1.2.1) ⟨this.1, this.2.1, this.2.2.trans (if_pos (show nI v < nI 10000 from nI_lt hv (by omega))).symm⟩ c1.2.2.2
    exact h μ3 (f1.tr f3) (by rw [← e1]; exact cs.2.1) cs.2.2.1 (by rw [← e2]; exact cs.2.2.2)
  have main : ∀ k i p1 v B μ1, i + k = 4 → v < B → B * 10 ^ k ≤ 10000 → q_cf μ μ1 → q_cs A t u p1 n C μ1 → p1 ≤ t → q_rd A k p1 v = q_rd A 4 pos 0 → gc_W (gc_S (d+1)) cX2_readNumber 2 2 R 4 [.ref 27, .int (nI v), .int (nI i)] [] μ1 := by
    intro k
    induction k with
    | zero =>
      intro i p1 v B μ1 hi hv hB f1 c1 ht1 e
      obtain rfl : i = 4 := hi
      have e : (p1, v) = q_rd A 4 pos 0 := e
      refine (u51_4).mpr ?_
      simp only [u51_0, u51_1, u51_2, u51_3, u51_5, u51_6, u51_9, u51_10, u51_13, u51_15, u51_18, u51_19, u51_22, u51_24, u51_27, u51_28, u51_30, u51_31, u51_32, u51_35, u51_36, u51_38, u51_39, u51_40, u51_41, u51_44, u51_47, u51_51, u51_54, u51_55, u51_58, show (4 : Int32) ≤ nI 4 by decide, if_true]
      rw [Nat.pow_zero, Nat.mul_one] at hB
      exact fin p1 v μ1 (by omega) f1 c1 (by rw [← e]) (by rw [← e]) _
    | succ k ih =>
      intro i p1 v B μ1 hi hv hB f1 c1 ht1 e
      have e' : q_rd A (k + 1) p1 v = if 48 ≤ A p1 ∧ A p1 ≤ 57 then q_rd A k (p1 + 1) (v * 10 + ((A p1).toNatClampNeg - 48)) else (p1, v) := rfl
      rw [e'] at e
      have i4 : ¬ (4 : Int32) ≤ nI i := q_nle (show i < 4 by omega) (by decide) (show (4 : Int32) = nI 4 from rfl)
      have ah := fun (d : Nat) (R : gR) => t_ahead (d := d) (R := R) hA h50 c1.1 c1.2.1 ht1
      have hv1 : v < 10000 := by
        have : B * 1 ≤ B * 10 ^ (k + 1) := Nat.mul_le_mul_left _ (Nat.pow_pos (by decide))
        omega
      refine (u51_4).mpr ?_
      by_cases g1 : A p1 < 48
      · rw [if_neg (fun z => absurd g1 (Int32.not_lt.mpr z.1))] at e
        simp only [u51_0, u51_1, u51_2, u51_3, u51_5, u51_6, u51_9, u51_10, u51_13, u51_15, u51_18, u51_19, u51_22, u51_24, u51_27, u51_28, u51_30, u51_31, u51_32, u51_35, u51_36, u51_38, u51_39, u51_40, u51_41, u51_44, u51_47, u51_51, u51_54, u51_55, u51_58, ly_kd, ly_al, ly_fv0, ly_fv1, ly_fv2, ly_fv3, ly_fv4, ly_fk, ly_ra, Option.toList, List.cons_append, List.nil_append, q_ski, q_skr, q_sku, if_true, if_false, i4, if_false, ah, g1]
        exact fin p1 v μ1 hv1 f1 c1 (by rw [← e]) (by rw [← e]) _
      · by_cases g2 : 57 < A p1
        · rw [if_neg (fun z => absurd g2 (Int32.not_lt.mpr z.2))] at e
          simp only [u51_0, u51_1, u51_2, u51_3, u51_5, u51_6, u51_9, u51_10, u51_13, u51_15, u51_18, u51_19, u51_22, u51_24, u51_27, u51_28, u51_30, u51_31, u51_32, u51_35, u51_36, u51_38, u51_39, u51_40, u51_41, u51_44, u51_47, u51_51, u51_54, u51_55, u51_58, ly_kd, ly_al, ly_fv0, ly_fv1, ly_fv2, ly_fv3, ly_fv4, ly_fk, ly_ra, Option.toList, List.cons_append, List.nil_append, q_ski, q_skr, q_sku, if_true, if_false, i4, if_false, ah, g1, g2]
          exact fin p1 v μ1 hv1 f1 c1 (by rw [← e]) (by rw [← e]) _
        · have gd : 48 ≤ A p1 ∧ A p1 ≤ 57 := ⟨Int32.not_lt.mp g1, Int32.not_lt.mp g2⟩
          rw [if_pos gd] at e
          have pt := q_in_t hA (fun z => by rw [z] at gd; exact absurd gd.1 (by decide))
          obtain ⟨b, b1, b2⟩ := hA.1 p1 pt
          have b48 : 48 ≤ b := by
            by_cases z : 48 ≤ b
            · exact z
            · exact absurd gd.1 (by rw [b2]; exact (show ¬ nI 48 ≤ nI b from nI_ge (by omega) (by omega)))
          have b57 : b ≤ 57 := by
            by_cases z : b ≤ 57
            · exact z
            · exact absurd gd.2 (by rw [b2]; exact (show ¬ nI b ≤ nI 57 from nI_ge (by omega) (by omega)))
          have hb : (A p1).toNatClampNeg = b := by rw [b2]; exact nI_clamp (by omega)
          have num : nI v * 10 + A p1 - 48 = nI (v * 10 + (b - 48)) := by
            rw [b2, show (10 : Int32) = nI 10 from rfl, pk_mul, nI_add, show (48 : Int32) = nI 48 from rfl, pk_sub (by omega)]
            congr 1; omega
          simp only [u51_0, u51_1, u51_2, u51_3, u51_5, u51_6, u51_9, u51_10, u51_13, u51_15, u51_18, u51_19, u51_22, u51_24, u51_27, u51_28, u51_30, u51_31, u51_32, u51_35, u51_36, u51_38, u51_39, u51_40, u51_41, u51_44, u51_47, u51_51, u51_54, u51_55, u51_58, ly_kd, ly_al, ly_fv0, ly_fv1, ly_fv2, ly_fv3, ly_fv4, ly_fk, ly_ra, Option.toList, List.cons_append, List.nil_append, q_ski, q_skr, q_sku, if_true, if_false, i4, if_false, ah, g1, g2, num, t_pass c1.2.1, nI_1]
          rw [hb] at e
          refine ih (i + 1) (p1 + 1) (v * 10 + (b - 48)) (B * 10) _ (by omega) (by omega) ?_ (f1.tr q_cf_pass) (q_cs_pass c1) (by omega) e
          rw [Nat.pow_succ, Nat.mul_comm (10 ^ k) 10, ← Nat.mul_assoc] at hB
          exact hB
  exact main 4 0 pos 0 1 μ rfl (by omega) (by decide) q_cf.rf hc ht rfl
set_option maxHeartbeats 1000000 in
theorem t_leastEnd {d : Nat} {R : gR} {μ : gM} {A : Nat → Int32} {t u pos n op : Nat} {C : Nat → Int32} (hA : q_by8s A t) (h50 : t ≤ 50) (hu : u = 0 ∨ u = 1) (hc : q_cs A t u pos n C μ) (hn : n ≤ pos) (ht : pos ≤ t) (g : ¬ (48 ≤ A pos ∧ A pos ≤ 57)) {l3 : Value} (h3 : gc_sk l3 = true) (h : q_po μ (q_bse A u pos n C) R) : gc_W (gc_S (d+5)) cX2_readLeast 2 1 R 99 [.ref 27, .int (nI op), .int (A pos), l3] [] μ := by
  unfold q_bse at h
  rw [if_neg g] at h
  have n103 : (nI (103 + u)).toNatClampNeg = 103 + u := nI_clamp (by omega)
  have k1 : gc_kd (103 + u) = 32 := by rcases hu with rfl | rfl <;> rfl
  refine (u61_99).mpr ?_
  by_cases pt : pos < t
  · obtain ⟨b, b1, b2⟩ := hA.1 pos pt
    rw [b2] at h
    have b0 : 0 ≤ nI b := nI_pos' (by omega)
    by_cases g2 : q_nm u (nI b) < 0
    · rw [if_pos g2] at h
      simp only [u61_0, u61_1, u61_4, u61_5, u61_6, u61_8, u61_11, u61_12, u61_14, u61_17, u61_18, u61_21, u61_22, u61_23, u61_24, u61_26, u61_29, u61_30, u61_31, u61_34, u61_35, u61_38, u61_39, u61_40, u61_41, u61_42, u61_45, u61_46, u61_47, u61_50, u61_52, u61_55, u61_56, u61_57, u61_58, u61_60, u61_63, u61_64, u61_65, u61_68, u61_69, u61_72, u61_73, u61_74, u61_75, u61_76, u61_79, u61_82, u61_83, u61_86, u61_88, u61_91, u61_92, u61_93, u61_94, u61_97, u61_98, u61_100, u61_103, u61_104, u61_107, u61_108, u61_111, u61_112, u61_113, u61_116, u61_117, u61_118, u61_121, u61_122, u61_123, u61_124, u61_127, u61_128, u61_131, u61_132, u61_133, u61_134, u61_137, u61_138, ly_kd, ly_al, ly_fv0, ly_fv1, ly_fv2, ly_fv3, ly_fv4, ly_fk, ly_ra, Option.toList, List.cons_append, List.nil_append, q_ski, q_skr, q_sku, if_true, if_false, b2, b0, hc.1.2.1, n103, k1, q_c16 b b1, t_idx hu b1, h3, show ¬ 0 ≤ q_nm u (nI b) from Int32.not_le.mpr g2, if_false, true_or, true_and]
      have := h μ q_cf.rf hc.2.1 (fun z => by cases z) ⟨n, by omega, hc.2.2.1⟩
      exact this
    · rw [if_neg g2] at h
      simp only [u61_0, u61_1, u61_4, u61_5, u61_6, u61_8, u61_11, u61_12, u61_14, u61_17, u61_18, u61_21, u61_22, u61_23, u61_24, u61_26, u61_29, u61_30, u61_31, u61_34, u61_35, u61_38, u61_39, u61_40, u61_41, u61_42, u61_45, u61_46, u61_47, u61_50, u61_52, u61_55, u61_56, u61_57, u61_58, u61_60, u61_63, u61_64, u61_65, u61_68, u61_69, u61_72, u61_73, u61_74, u61_75, u61_76, u61_79, u61_82, u61_83, u61_86, u61_88, u61_91, u61_92, u61_93, u61_94, u61_97, u61_98, u61_100, u61_103, u61_104, u61_107, u61_108, u61_111, u61_112, u61_113, u61_116, u61_117, u61_118, u61_121, u61_122, u61_123, u61_124, u61_127, u61_128, u61_131, u61_132, u61_133, u61_134, u61_137, u61_138, ly_kd, ly_al, ly_fv0, ly_fv1, ly_fv2, ly_fv3, ly_fv4, ly_fk, ly_ra, Option.toList, List.cons_append, List.nil_append, q_ski, q_skr, q_sku, if_true, if_false, b2, b0, hc.1.2.1, n103, k1, q_c16 b b1, t_idx hu b1, h3, show 0 ≤ q_nm u (nI b) from Int32.not_lt.mp g2, t_pass hc.2.1]
      have cp := q_cs_pass hc
      refine t_add28 (show n ≤ 50 by omega) cp.2.2.1 (fun μ3 f3 e27 a3 m3 => ?_)
      simp only [u61_0, u61_1, u61_4, u61_5, u61_6, u61_8, u61_11, u61_12, u61_14, u61_17, u61_18, u61_21, u61_22, u61_23, u61_24, u61_26, u61_29, u61_30, u61_31, u61_34, u61_35, u61_38, u61_39, u61_40, u61_41, u61_42, u61_45, u61_46, u61_47, u61_50, u61_52, u61_55, u61_56, u61_57, u61_58, u61_60, u61_63, u61_64, u61_65, u61_68, u61_69, u61_72, u61_73, u61_74, u61_75, u61_76, u61_79, u61_82, u61_83, u61_86, u61_88, u61_91, u61_92, u61_93, u61_94, u61_97, u61_98, u61_100, u61_103, u61_104, u61_107, u61_108, u61_111, u61_112, u61_113, u61_116, u61_117, u61_118, u61_121, u61_122, u61_123, u61_124, u61_127, u61_128, u61_131, u61_132, u61_133, u61_134, u61_137, u61_138, ly_kd, ly_al, ly_fv0, ly_fv1, ly_fv2, ly_fv3, ly_fv4, ly_fk, ly_ra, Option.toList, List.cons_append, List.nil_append, q_ski, q_skr, q_sku, if_true, if_false, or_true, true_and]
      have := a3 (by omega)
      have en : -1 - q_nm u (nI b) = q_enc (10000 + q_nm u (nI b)) := by
        rcases (q_nm_at g2).1 with e | e | e <;> rw [e] <;> decide
      have cs := q_cs_add (z := 10000 + q_nm u (nI b)) cp.1 f3 (by rw [e27]; exact cp.2.1) ⟨this.1, this.2.1, this.2.2.trans en⟩ cp.2.2.2
      have := h μ3 (q_cf_pass.tr f3) cs.2.1 (fun _ => cs.2.2) m3
      rw [q_bt rfl] at this; exact this
  · have e1 : A pos = -1 := hA.2 pos (by omega)
    rw [e1] at h
    have e2 : q_nm u (-1) = -1 := by rcases hu with rfl | rfl <;> decide
    rw [e2, if_pos (by decide)] at h
    simp only [u61_0, u61_1, u61_4, u61_5, u61_6, u61_8, u61_11, u61_12, u61_14, u61_17, u61_18, u61_21, u61_22, u61_23, u61_24, u61_26, u61_29, u61_30, u61_31, u61_34, u61_35, u61_38, u61_39, u61_40, u61_41, u61_42, u61_45, u61_46, u61_47, u61_50, u61_52, u61_55, u61_56, u61_57, u61_58, u61_60, u61_63, u61_64, u61_65, u61_68, u61_69, u61_72, u61_73, u61_74, u61_75, u61_76, u61_79, u61_82, u61_83, u61_86, u61_88, u61_91, u61_92, u61_93, u61_94, u61_97, u61_98, u61_100, u61_103, u61_104, u61_107, u61_108, u61_111, u61_112, u61_113, u61_116, u61_117, u61_118, u61_121, u61_122, u61_123, u61_124, u61_127, u61_128, u61_131, u61_132, u61_133, u61_134, u61_137, u61_138, ly_kd, ly_al, ly_fv0, ly_fv1, ly_fv2, ly_fv3, ly_fv4, ly_fk, ly_ra, Option.toList, List.cons_append, List.nil_append, q_ski, q_skr, q_sku, if_true, if_false, e1, show ¬ (0 : Int32) ≤ -1 by decide, if_false, h3, true_or, true_and]
    have := h μ q_cf.rf hc.2.1 (fun z => by cases z) ⟨n, by omega, hc.2.2.1⟩
    exact this
theorem t_digit {d : Nat} {R : gR} {μ : gM} {A : Nat → Int32} {t u pos n op : Nat} {C : Nat → Int32} (hA : q_by8s A t) (h50 : t ≤ 50) (hc : q_cs A t u pos n C μ) (hn : n ≤ pos) (ht : pos ≤ t) (g : 48 ≤ A pos ∧ A pos ≤ 57) (h : q_po μ (q_bse A u pos n C) R) : gc_S (d + 3) 61 [.ref 27, .int (nI op)] μ R := by
  unfold q_bse at h
  rw [if_pos g] at h
  have pt := q_in_t hA (fun z => by rw [z] at g; exact absurd g.1 (by decide))
  refine s61.mpr ?_
  simp only [u61_0, u61_1, u61_4, u61_5, u61_6, u61_8, u61_11, u61_12, u61_14, u61_17, u61_18, u61_21, u61_22, u61_24, u61_26, u61_29, u61_30, u61_31, u61_34, u61_35, u61_38, u61_39, u61_40, u61_41, u61_42, u61_45, u61_46, u61_47, u61_50, u61_52, u61_55, u61_56, u61_57, u61_58, u61_60, u61_63, u61_64, u61_65, u61_68, u61_69, u61_72, u61_73, u61_74, u61_75, u61_76, u61_79, u61_82, u61_83, u61_86, u61_88, u61_91, u61_92, u61_93, u61_94, u61_97, u61_98, u61_99, u61_100, u61_103, u61_104, u61_107, u61_108, u61_111, u61_112, u61_113, u61_116, u61_117, u61_118, u61_121, u61_122, u61_123, u61_124, u61_127, u61_128, u61_131, u61_132, u61_133, u61_134, u61_137, u61_138, ly_kd, ly_al, ly_fv0, ly_fv1, ly_fv2, ly_fv3, ly_fv4, ly_fk, ly_ra, Option.toList, List.cons_append, List.nil_append, q_ski, q_skr, q_sku, if_true, if_false, t_ahead hA h50 hc.1 hc.2.1 ht, show ¬ A pos < 48 from Int32.not_lt.mpr g.1, show ¬ 57 < A pos from Int32.not_lt.mpr g.2, if_false]
  refine t_number hA h50 hc (by omega) ht (fun μ1 f1 a1 b1 c1 => ?_)
  simp only [u61_0, u61_1, u61_4, u61_5, u61_6, u61_8, u61_11, u61_12, u61_14, u61_17, u61_18, u61_21, u61_22, u61_24, u61_26, u61_29, u61_30, u61_31, u61_34, u61_35, u61_38, u61_39, u61_40, u61_41, u61_42, u61_45, u61_46, u61_47, u61_50, u61_52, u61_55, u61_56, u61_57, u61_58, u61_60, u61_63, u61_64, u61_65, u61_68, u61_69, u61_72, u61_73, u61_74, u61_75, u61_76, u61_79, u61_82, u61_83, u61_86, u61_88, u61_91, u61_92, u61_93, u61_94, u61_97, u61_98, u61_99, u61_100, u61_103, u61_104, u61_107, u61_108, u61_111, u61_112, u61_113, u61_116, u61_117, u61_118, u61_121, u61_122, u61_123, u61_124, u61_127, u61_128, u61_131, u61_132, u61_133, u61_134, u61_137, u61_138, ly_kd, ly_al, ly_fv0, ly_fv1, ly_fv2, ly_fv3, ly_fv4, ly_fk, ly_ra, Option.toList, List.cons_append, List.nil_append, q_ski, q_skr, q_sku, if_true, if_false, or_true, true_and]
  have := h μ1 f1 a1 (fun _ => ⟨b1, c1⟩) ⟨n + 1, by omega, b1⟩
  rw [q_bt rfl] at this; exact this
theorem t_least0 {A : Nat → Int32} {t u d : Nat} (hA : q_by8s A t) (h50 : t ≤ 50) (hu : u = 0 ∨ u = 1) : q_TC A t u (d + 6) 61 5 (q_bse A u) := by
  intro μ R pos n C hc hn ht h
  by_cases g : 48 ≤ A pos ∧ A pos ≤ 57
  · exact t_digit hA h50 hc hn ht g h
  · have end_ := t_leastEnd (d := d) (op := 5) hA h50 hu hc hn ht g q_sku h
    have mid : gc_W (gc_S (d+5)) cX2_readLeast 2 1 R 23 [.ref 27, .int (nI 5), .int (A pos), .retAddr 0] [] μ := by
      refine (u61_23).mpr ?_
      by_cases g1 : A pos = 33
      · simp only [u61_0, u61_1, u61_4, u61_5, u61_6, u61_8, u61_11, u61_12, u61_14, u61_17, u61_18, u61_21, u61_22, u61_24, u61_26, u61_29, u61_30, u61_31, u61_34, u61_35, u61_38, u61_39, u61_40, u61_41, u61_42, u61_45, u61_46, u61_47, u61_50, u61_52, u61_55, u61_56, u61_57, u61_58, u61_60, u61_63, u61_64, u61_65, u61_68, u61_69, u61_72, u61_73, u61_74, u61_75, u61_76, u61_79, u61_82, u61_83, u61_86, u61_88, u61_91, u61_92, u61_93, u61_94, u61_97, u61_98, u61_100, u61_103, u61_104, u61_107, u61_108, u61_111, u61_112, u61_113, u61_116, u61_117, u61_118, u61_121, u61_122, u61_123, u61_124, u61_127, u61_128, u61_131, u61_132, u61_133, u61_134, u61_137, u61_138, Option.toList, List.cons_append, List.nil_append, q_ski, q_skr, q_sku, if_true, if_false, g1, show (5 : Int32) ≤ nI 5 by decide, show ¬ (33 : Int32) = 40 by decide, if_false]
        rw [← g1]; exact end_
      · by_cases g2 : A pos = 40
        · simp only [u61_0, u61_1, u61_4, u61_5, u61_6, u61_8, u61_11, u61_12, u61_14, u61_17, u61_18, u61_21, u61_22, u61_24, u61_26, u61_29, u61_30, u61_31, u61_34, u61_35, u61_38, u61_39, u61_40, u61_41, u61_42, u61_45, u61_46, u61_47, u61_50, u61_52, u61_55, u61_56, u61_57, u61_58, u61_60, u61_63, u61_64, u61_65, u61_68, u61_69, u61_72, u61_73, u61_74, u61_75, u61_76, u61_79, u61_82, u61_83, u61_86, u61_88, u61_91, u61_92, u61_93, u61_94, u61_97, u61_98, u61_100, u61_103, u61_104, u61_107, u61_108, u61_111, u61_112, u61_113, u61_116, u61_117, u61_118, u61_121, u61_122, u61_123, u61_124, u61_127, u61_128, u61_131, u61_132, u61_133, u61_134, u61_137, u61_138, Option.toList, List.cons_append, List.nil_append, q_ski, q_skr, q_sku, if_true, if_false, g2, show (5 : Int32) ≤ nI 5 by decide, show ¬ (40 : Int32) = 33 by decide, if_false]
          rw [← g2]; exact end_
        · simp only [u61_0, u61_1, u61_4, u61_5, u61_6, u61_8, u61_11, u61_12, u61_14, u61_17, u61_18, u61_21, u61_22, u61_24, u61_26, u61_29, u61_30, u61_31, u61_34, u61_35, u61_38, u61_39, u61_40, u61_41, u61_42, u61_45, u61_46, u61_47, u61_50, u61_52, u61_55, u61_56, u61_57, u61_58, u61_60, u61_63, u61_64, u61_65, u61_68, u61_69, u61_72, u61_73, u61_74, u61_75, u61_76, u61_79, u61_82, u61_83, u61_86, u61_88, u61_91, u61_92, u61_93, u61_94, u61_97, u61_98, u61_100, u61_103, u61_104, u61_107, u61_108, u61_111, u61_112, u61_113, u61_116, u61_117, u61_118, u61_121, u61_122, u61_123, u61_124, u61_127, u61_128, u61_131, u61_132, u61_133, u61_134, u61_137, u61_138, Option.toList, List.cons_append, List.nil_append, q_ski, q_skr, q_sku, if_true, if_false, g1, g2, if_false]
          exact end_
    refine s61.mpr ?_
    by_cases g1 : A pos < 48
    · simp only [u61_0, u61_1, u61_4, u61_5, u61_6, u61_8, u61_11, u61_12, u61_14, u61_17, u61_18, u61_21, u61_22, u61_24, u61_26, u61_29, u61_30, u61_31, u61_34, u61_35, u61_38, u61_39, u61_40, u61_41, u61_42, u61_45, u61_46, u61_47, u61_50, u61_52, u61_55, u61_56, u61_57, u61_58, u61_60, u61_63, u61_64, u61_65, u61_68, u61_69, u61_72, u61_73, u61_74, u61_75, u61_76, u61_79, u61_82, u61_83, u61_86, u61_88, u61_91, u61_92, u61_93, u61_94, u61_97, u61_98, u61_99, u61_100, u61_103, u61_104, u61_107, u61_108, u61_111, u61_112, u61_113, u61_116, u61_117, u61_118, u61_121, u61_122, u61_123, u61_124, u61_127, u61_128, u61_131, u61_132, u61_133, u61_134, u61_137, u61_138, ly_kd, ly_al, ly_fv0, ly_fv1, ly_fv2, ly_fv3, ly_fv4, ly_fk, ly_ra, Option.toList, List.cons_append, List.nil_append, q_ski, q_skr, q_sku, if_true, if_false, t_ahead hA h50 hc.1 hc.2.1 ht, g1]
      exact mid
    · by_cases g2 : 57 < A pos
      · simp only [u61_0, u61_1, u61_4, u61_5, u61_6, u61_8, u61_11, u61_12, u61_14, u61_17, u61_18, u61_21, u61_22, u61_24, u61_26, u61_29, u61_30, u61_31, u61_34, u61_35, u61_38, u61_39, u61_40, u61_41, u61_42, u61_45, u61_46, u61_47, u61_50, u61_52, u61_55, u61_56, u61_57, u61_58, u61_60, u61_63, u61_64, u61_65, u61_68, u61_69, u61_72, u61_73, u61_74, u61_75, u61_76, u61_79, u61_82, u61_83, u61_86, u61_88, u61_91, u61_92, u61_93, u61_94, u61_97, u61_98, u61_99, u61_100, u61_103, u61_104, u61_107, u61_108, u61_111, u61_112, u61_113, u61_116, u61_117, u61_118, u61_121, u61_122, u61_123, u61_124, u61_127, u61_128, u61_131, u61_132, u61_133, u61_134, u61_137, u61_138, ly_kd, ly_al, ly_fv0, ly_fv1, ly_fv2, ly_fv3, ly_fv4, ly_fk, ly_ra, Option.toList, List.cons_append, List.nil_append, q_ski, q_skr, q_sku, if_true, if_false, t_ahead hA h50 hc.1 hc.2.1 ht, g1, g2, if_false]
        exact mid
      · exact absurd ⟨Int32.not_lt.mp g1, Int32.not_lt.mp g2⟩ g
