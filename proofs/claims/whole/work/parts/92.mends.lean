theorem q_pn_one {P : Nat → Bool} {a : Nat} (ha : a < 16) (hP : P a = true) (hl : ∀ j, j < a → P j = false) : q_set (q_rc P a 16) 16 = q_set P 16 ↔ q_pn P 16 ≤ 1 := by
  obtain ⟨s1, s2⟩ := q_left_sk (P := P) (c := 0) a (fun b _ y => hl b (by omega))
  rw [Nat.zero_add] at s1 s2
  have s1 : q_left P a = P := s1
  have s2 : q_pn P a = 0 := s2
  have hit : q_left P a a = true := by rw [s1]; exact hP
  obtain ⟨t1, t2⟩ := q_left_hit hit
  rw [s1] at t1
  rw [s2] at t2
  constructor
  · intro h
    have e := q_set_inj h
    obtain ⟨-, g2⟩ := q_left_sk (P := P) (c := a + 1) (16 - (a + 1)) (fun b _ y => by
      rw [t1]
      show (P b && !q_rc P a 16 b) = false
      rw [e b (by omega)]; cases P b <;> rfl)
    rw [show a + 1 + (16 - (a + 1)) = 16 by omega, t2] at g2
    omega
  · intro h
    refine q_set_cong (fun c hc => ?_)
    cases e1 : q_rc P a 16 c with
    | true => exact (q_rc_P hP 16 c e1).symm
    | false =>
      cases e2 : P c with
      | false => rfl
      | true =>
        exfalso
        have hx : q_left P (a + 1) c = true := by
          rw [t1]
          show (P c && !q_rc P a 16 c) = true
          rw [e1, e2]; rfl
        obtain ⟨x, x1, x2, x3⟩ := q_least ⟨c, hc, hx⟩
        have ax : a + 1 ≤ x := by
          by_cases z : x ≤ a
          · rw [t1] at x2
            have x2 : (P x && !q_rc P a 16 x) = true := x2
            rw [Bool.and_eq_true] at x2
            by_cases z2 : x = a
            · subst z2
              have : q_rc P x 16 x = true := q_rc_mk hP (n := 0) (decide_eq_true rfl) 16
              rw [this] at x2; cases x2.2
            · rw [hl x (by omega)] at x2; cases x2.1
          · omega
        obtain ⟨g1, g2⟩ := q_left_sk (P := P) (c := a + 1) (x - (a + 1)) (fun b _ y => x3 b (by omega))
        rw [show a + 1 + (x - (a + 1)) = x by omega] at g1 g2
        obtain ⟨-, g3⟩ := q_left_hit (P := P) (a := x) (by rw [g1]; exact x2)
        have g4 := q_pn_mo (P := P) (c := x + 1) (16 - (x + 1))
        rw [show x + 1 + (16 - (x + 1)) = 16 by omega] at g4
        omega
theorem t_isOne {d : Nat} {R : gR} {μ : gM} {P : Nat → Bool} (h : R (some (.int (q_b (q_pn P 16 ≤ 1)))) μ) : gc_S (d + 3) 113 [.int (q_set P 16)] μ R := by
  unfold q_b at h
  by_cases e : ∃ b, b < 16 ∧ P b = true
  · obtain ⟨a, ha, hPa, hla⟩ := q_least e
    have one := q_pn_one ha hPa hla
    simp only [s113, u113_0, u113_1, u113_4, u113_5, u113_8, u113_9, u113_12, u113_13, Option.toList, List.cons_append, List.nil_append, q_ski, q_skr, q_sku, if_true, if_false]
    refine t_pol ha hPa hla ?_
    by_cases g : q_pn P 16 ≤ 1
    · rw [if_pos g] at h
      simp only [u113_0, u113_1, u113_4, u113_5, u113_8, u113_9, u113_12, u113_13, Option.toList, List.cons_append, List.nil_append, q_ski, q_skr, q_sku, if_true, if_false, eq_true (one.mpr g), q_z2, true_and, or_true]
      exact h
    · rw [if_neg g] at h
      simp only [u113_0, u113_1, u113_4, u113_5, u113_8, u113_9, u113_12, u113_13, Option.toList, List.cons_append, List.nil_append, q_ski, q_skr, q_sku, if_true, if_false, eq_false (fun z => g (one.mp z)), q_z1, true_and, true_or]
      exact h
  · have e0 : ∀ b, b < 16 → P b = false := fun b hb => by
      cases z : P b with
      | false => rfl
      | true => exact absurd ⟨b, hb, z⟩ e
    obtain ⟨-, s2⟩ := q_left_sk (P := P) (c := 0) 16 (fun b _ y => e0 b (by omega))
    have s2 : q_pn P 16 = 0 := s2
    rw [if_pos (by omega)] at h
    rw [q_set_0.mpr e0]
    simp only [s113, u113_0, u113_1, u113_4, u113_5, u113_8, u113_9, u113_12, u113_13, Option.toList, List.cons_append, List.nil_append, q_ski, q_skr, q_sku, if_true, if_false]
    refine t_pol0 ?_
    simp only [u113_0, u113_1, u113_4, u113_5, u113_8, u113_9, u113_12, u113_13, Option.toList, List.cons_append, List.nil_append, q_ski, q_skr, q_sku, if_true, if_false, q_z2, true_and, or_true]
    exact h
def q_mst (D : Nat → Int32) (best k : Nat) : Nat := if q_ct (fun j => k.testBit j) 16 < q_ct (fun j => best.testBit j) 16 ∧ q_pn (fun c => q_wh D c || k.testBit c) 16 ≤ 1 then k else best
def q_T (D : Nat → Int32) (c : Nat) : Bool := decide (D (21 + c) = 1)
def q_mc (D : Nat → Int32) : Nat → Nat
  | 0 => q_num (q_T D) 16
  | i + 1 => q_mst D (q_mc D i) (q_e (q_T D) 16 i)
def q_sub (T : Nat → Bool) (k : Nat) : Bool := !q_any (fun j => k.testBit j && !T j) 16
def q_mr (D : Nat → Int32) : Nat → Nat
  | 0 => q_num (q_T D) 16
  | k + 1 => if q_sub (q_T D) k = true then q_mst D (q_mr D k) k else q_mr D k
theorem q_sub_iff {T : Nat → Bool} {k : Nat} : q_sub T k = true ↔ ∀ j, j < 16 → k.testBit j = true → T j = true := by
  unfold q_sub
  constructor
  · intro h j hj hk
    cases e : T j with
    | true => rfl
    | false =>
      have : q_any (fun j => k.testBit j && !T j) 16 = true := (q_any_iff 16).mpr ⟨j, hj, by rw [hk, e]; rfl⟩
      rw [this] at h; cases h
  · intro h
    cases e : q_any (fun j => k.testBit j && !T j) 16 with
    | false => rfl
    | true =>
      obtain ⟨j, hj, h2⟩ := (q_any_iff 16).mp e
      rw [Bool.and_eq_true] at h2
      rw [h j hj h2.1] at h2; cases h2.2
theorem q_mr_sk {D : Nat → Int32} {a : Nat} : ∀ m, (∀ k, a ≤ k → k < a + m → q_sub (q_T D) k = false) → q_mr D (a + m) = q_mr D a
  | 0, _ => rfl
  | m + 1, h => by
    show (if q_sub (q_T D) (a + m) = true then _ else q_mr D (a + m)) = _
    rw [if_neg (by rw [h (a + m) (by omega) (by omega)]; decide)]
    exact q_mr_sk m (fun k x y => h k x (by omega))
theorem q_e_sb {T : Nat → Bool} {i : Nat} (h : i < 2 ^ q_ct T 16) : q_sub T (q_e T 16 i) = true := q_sub_iff.mpr (fun j _ hj => (q_e_sub 16 i h j hj).1)
theorem q_mr_mc {D : Nat → Int32} : ∀ i, i < 2 ^ q_ct (q_T D) 16 → q_mr D (q_e (q_T D) 16 i) = q_mc D i
  | 0, _ => by rw [q_e_0]; rfl
  | i + 1, h => by
    have ih := q_mr_mc (D := D) i (by omega)
    obtain ⟨-, -, n3, n4⟩ := q_e_nx 16 i h
    have e1 : q_mr D (q_e (q_T D) 16 i + 1) = q_mc D (i + 1) := by
      show (if q_sub (q_T D) (q_e (q_T D) 16 i) = true then q_mst D (q_mr D (q_e (q_T D) 16 i)) (q_e (q_T D) 16 i) else _) = _
      rw [if_pos (q_e_sb (by omega)), ih]; rfl
    rw [← e1]
    have e2 := q_mr_sk (D := D) (a := q_e (q_T D) 16 i + 1) (q_e (q_T D) 16 (i + 1) - (q_e (q_T D) 16 i + 1)) (fun k x y => by
      obtain ⟨j, j1, j2⟩ := n4 k (by omega) (by omega)
      have lt := q_e_lt (T := q_T D) 16 (i + 1) h
      cases e : q_sub (q_T D) k with
      | false => rfl
      | true =>
        have j16 : j < 16 := by
          by_cases z : j < 16
          · exact z
          · rw [Nat.testBit_lt_two_pow (show k < 2 ^ j from Nat.lt_of_lt_of_le (show k < 2 ^ 16 by omega) (Nat.pow_le_pow_right (by decide) (by omega)))] at j1
            cases j1
        rw [q_sub_iff.mp e j j16 j1] at j2; cases j2)
    rw [show q_e (q_T D) 16 i + 1 + (q_e (q_T D) 16 (i + 1) - (q_e (q_T D) 16 i + 1)) = q_e (q_T D) 16 (i + 1) by omega] at e2
    exact e2
theorem q_mr_end {D : Nat → Int32} : q_mr D (q_num (q_T D) 16 + 1) = q_mc D (2 ^ q_ct (q_T D) 16) := by
  have hp : 0 < 2 ^ q_ct (q_T D) 16 := Nat.pow_pos (by decide)
  have e := q_mr_mc (D := D) (2 ^ q_ct (q_T D) 16 - 1) (by omega)
  have s := q_e_sb (T := q_T D) (i := 2 ^ q_ct (q_T D) 16 - 1) (by omega)
  rw [q_e_last] at e s
  show (if q_sub (q_T D) (q_num (q_T D) 16) = true then q_mst D (q_mr D (q_num (q_T D) 16)) (q_num (q_T D) 16) else _) = _
  rw [if_pos s, e]
  have : q_mc D (2 ^ q_ct (q_T D) 16 - 1 + 1) = q_mst D (q_mc D (2 ^ q_ct (q_T D) 16 - 1)) (q_e (q_T D) 16 (2 ^ q_ct (q_T D) 16 - 1)) := rfl
  rw [show 2 ^ q_ct (q_T D) 16 - 1 + 1 = 2 ^ q_ct (q_T D) 16 by omega, q_e_last] at this
  exact this.symm
theorem q_mst_lt {D : Nat → Int32} {b k : Nat} (h1 : b < 65536) (h2 : k < 65536) : q_mst D b k < 65536 := by
  unfold q_mst; split <;> assumption
theorem q_mc_lt {D : Nat → Int32} : ∀ i, i ≤ 2 ^ q_ct (q_T D) 16 → q_mc D i < 65536
  | 0, _ => q_num_lt 16
  | i + 1, h => q_mst_lt (q_mc_lt i (by omega)) (q_e_lt 16 i (by omega))
theorem q_mr_lt {D : Nat → Int32} : ∀ k, k ≤ 65536 → q_mr D k < 65536
  | 0, _ => q_num_lt 16
  | k + 1, h => by
    show (if q_sub (q_T D) k = true then q_mst D (q_mr D k) k else q_mr D k) < 65536
    have := q_mr_lt (D := D) k (by omega)
    split
    · exact q_mst_lt this (by omega)
    · exact this
theorem t_bcX {d : Nat} {R : gR} {μ : gM} {x : Nat} (h : x < 65536) : gc_S (d + 1) 30 [.int (nI x)] μ R ↔ R (some (.int (nI (q_ct (fun j => x.testBit j) 16)))) μ := by
  rw [t_bitCountN h, q_F_n h]
theorem m_onesX {d : Nat} {R : gR} {μ : gM} {x : Nat} (h : x < 65536) : gc_S (d + 1) 150 [.int (nI x)] μ R ↔ R (some (.int (nI (q_ct (fun j => x.testBit j) 16)))) μ := by
  rw [m_ones, q_nI_set h, q_ones 16 (by omega)]
theorem q_wh_or {D : Nat → Int32} {x : Nat} (h : x < 65536) : q_set (q_wh D) 16 ||| nI x = q_set (fun c => q_wh D c || x.testBit c) 16 := by
  rw [q_nI_set h, q_set_or]
theorem q_pw : ∀ m, m < 11 → (1 : Int32) <<< (nI m &&& 31) = nI (2 ^ m) := by decide +kernel
theorem q_ctT {T : Nat → Bool} : q_ct (fun j => (q_num T 16).testBit j) 16 = q_ct T 16 := q_ct_cong (fun c hc => by rw [q_num_tb, decide_eq_true hc]; rfl)
set_option maxHeartbeats 1000000 in
theorem m_mends {d : Nat} {R : gR} {μ : gM} (hok : q_ok (μ 84)) (h10 : q_ct (q_T (μ 84)) 16 ≤ 10) (h : ∀ μ', (∀ o, o ≠ 94 → μ' o = μ o) → R (some (.int (nI (q_mr (μ 84) (q_num (q_T (μ 84)) 16 + 1))))) μ') : gc_S (d + 4) 224 [.ref 83] μ R := by
  have nT := q_num_lt (p := q_T (μ 84)) 16
  have sT : q_set (fun c => decide (μ 84 (21 + c) = 1)) 16 = nI (q_num (q_T (μ 84)) 16) := q_set_num (p := q_T (μ 84)) (by omega)
  have sT2 : q_set (q_T (μ 84)) 16 = nI (q_num (q_T (μ 84)) 16) := sT
  simp only [s224, u224_0, u224_1, u224_4, u224_5, u224_6, u224_9, u224_11, u224_14, u224_15, u224_16, u224_19, u224_20, u224_21, u224_22, u224_23, u224_25, u224_26, u224_29, u224_30, u224_31, u224_32, u224_33, u224_34, u224_37, u224_38, u224_41, u224_42, u224_45, u224_48, u224_49, u224_50, u224_53, u224_54, u224_55, u224_58, u224_59, u224_62, u224_63, u224_64, u224_67, u224_70, u224_71, ly_kd, ly_al, ly_fv0, ly_fv1, ly_fv2, ly_fv3, ly_fv4, ly_fk, ly_ra, Option.toList, List.cons_append, List.nil_append, q_ski, q_skr, q_sku, if_true, if_false, m_torn hok, sT, m_onesX nT, q_ctT, show nI (q_ct (q_T (μ 84)) 16) ≤ 10 from (show nI (q_ct (q_T (μ 84)) 16) ≤ nI 10 from nI_le h10 (by omega))]
  have main : ∀ m k, k + m = q_num (q_T (μ 84)) 16 + 1 → ∀ μ0 : gM, (∀ o, o ≠ 94 → μ0 o = μ o) → gc_W (gc_S (d+3)) cX12_mends 12 0 R 24 [.ref 83, .int (nI (q_num (q_T (μ 84)) 16)), .int (nI (q_mr (μ 84) k)), .int (nI k)] [] μ0 := by
    intro m
    induction m with
    | zero =>
      intro k hk μ0 f0
      have hk : k = q_num (q_T (μ 84)) 16 + 1 := hk
      refine (u224_24).mpr ?_
      simp only [u224_0, u224_1, u224_4, u224_5, u224_6, u224_9, u224_11, u224_14, u224_15, u224_16, u224_19, u224_20, u224_21, u224_22, u224_23, u224_25, u224_26, u224_29, u224_30, u224_31, u224_32, u224_33, u224_34, u224_37, u224_38, u224_41, u224_42, u224_45, u224_48, u224_49, u224_50, u224_53, u224_54, u224_55, u224_58, u224_59, u224_62, u224_63, u224_64, u224_67, u224_70, u224_71, show nI (q_num (q_T (μ 84)) 16) < nI k from nI_lt (by omega) (by omega), if_true]
      rw [hk]
      exact h μ0 f0
    | succ m ih =>
      intro k hk μ0 f0
      have k16 : k < 65536 := by omega
      have b16 := q_mr_lt (D := μ 84) k (by omega)
      have e84 : μ0 84 = μ 84 := f0 84 (by omega)
      have nx : ∀ v, v = nI (q_mr (μ 84) (k + 1)) → ∀ μ1 : gM, (∀ o, o ≠ 94 → μ1 o = μ o) → gc_W (gc_S (d+3)) cX12_mends 12 0 R 24 [.ref 83, .int (nI (q_num (q_T (μ 84)) 16)), .int v, .int (nI (k + 1))] [] μ1 := fun v hv μ1 f1 => by
        rw [hv]; exact ih (k + 1) (by omega) μ1 f1
      have dif : nI k &&& (nI (q_num (q_T (μ 84)) 16) ^^^ -1) = 0 ↔ q_sub (q_T (μ 84)) k = true := by
        rw [q_nI_set k16, ← sT2, q_set_dif, q_set_0, q_sub_iff]
        constructor
        · intro h j hj hk
          have := h j hj
          rw [hk] at this
          cases e : q_T (μ 84) j with
          | true => rfl
          | false => rw [e] at this; cases this
        · intro h j hj
          cases e : k.testBit j with
          | false => rfl
          | true => rw [h j hj e]; rfl
      have er : q_mr (μ 84) (k + 1) = if q_sub (q_T (μ 84)) k = true then q_mst (μ 84) (q_mr (μ 84) k) k else q_mr (μ 84) k := rfl
      refine (u224_24).mpr ?_
      by_cases g1 : q_sub (q_T (μ 84)) k = true
      · rw [if_pos g1] at er
        unfold q_mst at er
        by_cases g2 : q_ct (fun j => k.testBit j) 16 < q_ct (fun j => (q_mr (μ 84) k).testBit j) 16
        · have c16 := q_ct_le (p := fun j => (q_mr (μ 84) k).testBit j) 16
          have g2' : ¬ nI (q_ct (fun j => (q_mr (μ 84) k).testBit j) 16) ≤ nI (q_ct (fun j => k.testBit j) 16) := nI_ge g2 (by omega)
          simp only [u224_0, u224_1, u224_4, u224_5, u224_6, u224_9, u224_11, u224_14, u224_15, u224_16, u224_19, u224_20, u224_21, u224_22, u224_23, u224_25, u224_26, u224_29, u224_30, u224_31, u224_32, u224_33, u224_34, u224_37, u224_38, u224_41, u224_42, u224_45, u224_48, u224_49, u224_50, u224_53, u224_54, u224_55, u224_58, u224_59, u224_62, u224_63, u224_64, u224_67, u224_70, u224_71, show ¬ nI (q_num (q_T (μ 84)) 16) < nI k from nI_nlt (by omega) (by omega), if_false, dif, eq_true g1, if_true, ly_kd, ly_al, ly_fv0, ly_fv1, ly_fv2, ly_fv3, ly_fv4, ly_fk, ly_ra, Option.toList, List.cons_append, List.nil_append, q_ski, q_skr, q_sku, if_true, if_false, m_onesX k16, m_onesX b16, g2', m_wholeR (show q_ok (μ0 84) by rw [e84]; exact hok), e84, q_wh_or k16]
          refine m_partsOf (fun μ1 f1 => ?_)
          have fr : ∀ o, o ≠ 94 → μ1 o = μ o := fun o ho => by rw [f1 o ho, f0 o ho]
          have pn16 := q_pn_le (P := fun c => q_wh (μ 84) c || k.testBit c) 16
          by_cases g3 : q_pn (fun c => q_wh (μ 84) c || k.testBit c) 16 ≤ 1
          · rw [if_pos ⟨g2, g3⟩] at er
            simp only [u224_0, u224_1, u224_4, u224_5, u224_6, u224_9, u224_11, u224_14, u224_15, u224_16, u224_19, u224_20, u224_21, u224_22, u224_23, u224_25, u224_26, u224_29, u224_30, u224_31, u224_32, u224_33, u224_34, u224_37, u224_38, u224_41, u224_42, u224_45, u224_48, u224_49, u224_50, u224_53, u224_54, u224_55, u224_58, u224_59, u224_62, u224_63, u224_64, u224_67, u224_70, u224_71, ly_kd, ly_al, ly_fv0, ly_fv1, ly_fv2, ly_fv3, ly_fv4, ly_fk, ly_ra, Option.toList, List.cons_append, List.nil_append, q_ski, q_skr, q_sku, if_true, if_false, show ¬ (1 : Int32) < nI (q_pn (fun c => q_wh (μ 84) c || k.testBit c) 16) from (show ¬ nI 1 < nI _ from nI_nlt g3 (by omega)), nI_1]
            exact nx _ (by rw [er]) μ1 fr
          · rw [if_neg (fun z => g3 z.2)] at er
            simp only [u224_0, u224_1, u224_4, u224_5, u224_6, u224_9, u224_11, u224_14, u224_15, u224_16, u224_19, u224_20, u224_21, u224_22, u224_23, u224_25, u224_26, u224_29, u224_30, u224_31, u224_32, u224_33, u224_34, u224_37, u224_38, u224_41, u224_42, u224_45, u224_48, u224_49, u224_50, u224_53, u224_54, u224_55, u224_58, u224_59, u224_62, u224_63, u224_64, u224_67, u224_70, u224_71, ly_kd, ly_al, ly_fv0, ly_fv1, ly_fv2, ly_fv3, ly_fv4, ly_fk, ly_ra, Option.toList, List.cons_append, List.nil_append, q_ski, q_skr, q_sku, if_true, if_false, show (1 : Int32) < nI (q_pn (fun c => q_wh (μ 84) c || k.testBit c) 16) from (show nI 1 < nI _ from nI_lt (by omega) (by omega)), nI_1]
            exact nx _ (by rw [er]) μ1 fr
        · rw [if_neg (fun z => g2 z.1)] at er
          have c16 := q_ct_le (p := fun j => k.testBit j) 16
          have g2' : nI (q_ct (fun j => (q_mr (μ 84) k).testBit j) 16) ≤ nI (q_ct (fun j => k.testBit j) 16) := nI_le (by omega) (by omega)
          simp only [u224_0, u224_1, u224_4, u224_5, u224_6, u224_9, u224_11, u224_14, u224_15, u224_16, u224_19, u224_20, u224_21, u224_22, u224_23, u224_25, u224_26, u224_29, u224_30, u224_31, u224_32, u224_33, u224_34, u224_37, u224_38, u224_41, u224_42, u224_45, u224_48, u224_49, u224_50, u224_53, u224_54, u224_55, u224_58, u224_59, u224_62, u224_63, u224_64, u224_67, u224_70, u224_71, show ¬ nI (q_num (q_T (μ 84)) 16) < nI k from nI_nlt (by omega) (by omega), if_false, dif, eq_true g1, if_true, ly_kd, ly_al, ly_fv0, ly_fv1, ly_fv2, ly_fv3, ly_fv4, ly_fk, ly_ra, Option.toList, List.cons_append, List.nil_append, q_ski, q_skr, q_sku, if_true, if_false, m_onesX k16, m_onesX b16, g2', nI_1]
          exact nx _ (by rw [er]) μ0 f0
      · rw [if_neg g1] at er
        simp only [u224_0, u224_1, u224_4, u224_5, u224_6, u224_9, u224_11, u224_14, u224_15, u224_16, u224_19, u224_20, u224_21, u224_22, u224_23, u224_25, u224_26, u224_29, u224_30, u224_31, u224_32, u224_33, u224_34, u224_37, u224_38, u224_41, u224_42, u224_45, u224_48, u224_49, u224_50, u224_53, u224_54, u224_55, u224_58, u224_59, u224_62, u224_63, u224_64, u224_67, u224_70, u224_71, show ¬ nI (q_num (q_T (μ 84)) 16) < nI k from nI_nlt (by omega) (by omega), if_false, dif, eq_false g1, ly_kd, ly_al, ly_fv0, ly_fv1, ly_fv2, ly_fv3, ly_fv4, ly_fk, ly_ra, Option.toList, List.cons_append, List.nil_append, q_ski, q_skr, q_sku, if_true, if_false, nI_1]
        exact nx _ (by rw [er]) μ0 f0
  exact main (q_num (q_T (μ 84)) 16 + 1) 0 (by omega) μ (fun _ _ => rfl)
set_option maxHeartbeats 1000000 in
theorem p_mends : q_P 114 224 [.ref 0] [.ref 83] := by
  intro μ R I hk
  obtain ⟨ok, ⟨y, hy, hy2⟩, hR, hL⟩ := q_c31 I
  have nT := q_num_lt (p := q_T (μ 84)) 16
  have e11 : μ 31 11 = q_set (q_T (μ 84)) 16 := hR.2.2.2.2.2.2.1
  have sT : q_set (q_T (μ 84)) 16 = nI (q_num (q_T (μ 84)) 16) := q_set_num (by omega)
  have sT3 : q_set (fun c => decide (μ 84 (21 + c) = 1)) 16 = nI (q_num (q_T (μ 84)) 16) := sT
  have c16 := q_ct_le (p := q_T (μ 84)) 16
  simp only [s114, u114_0, u114_1, u114_4, u114_7, u114_8, u114_9, u114_12, u114_13, u114_14, u114_16, u114_19, u114_20, u114_21, u114_24, u114_25, u114_26, u114_27, u114_28, u114_30, u114_31, u114_35, u114_36, u114_37, u114_38, u114_41, u114_43, u114_46, u114_47, u114_50, u114_53, u114_54, u114_57, u114_60, u114_62, u114_63, u114_66, u114_69, u114_71, u114_72, u114_74, u114_75, u114_76, u114_77, u114_78, u114_80, u114_83, u114_86, u114_87, ly_kd, ly_al, ly_fv0, ly_fv1, ly_fv2, ly_fv3, ly_fv4, ly_fk, ly_ra, Option.toList, List.cons_append, List.nil_append, q_ski, q_skr, q_sku, if_true, if_false, e11, sT, t_bcX nT, q_ctT, t_ref3]
  by_cases h10 : q_ct (q_T (μ 84)) 16 ≤ 10
  · simp only [show nI (q_ct (q_T (μ 84)) 16) ≤ 10 from (show nI (q_ct (q_T (μ 84)) 16) ≤ nI 10 from nI_le h10 (by omega)), if_true]
    have hpw := q_pw (q_ct (q_T (μ 84)) 16) (by omega)
    have hp : 2 ^ q_ct (q_T (μ 84)) 16 ≤ 2 ^ 10 := Nat.pow_le_pow_right (by decide) h10
    have main : ∀ m i, i + m = 2 ^ q_ct (q_T (μ 84)) 16 → ∀ v, (i < 2 ^ q_ct (q_T (μ 84)) 16 → v = nI (q_e (q_T (μ 84)) 16 i)) → gc_W (gc_S (99)) cX11_mends 11 0 R 33 [.ref 0, .int (nI (q_num (q_T (μ 84)) 16)), .int (nI (q_ct (q_T (μ 84)) 16)), .int (nI (q_mc (μ 84) i)), .int v, .int (nI i)] [] μ := by
      intro m
      induction m with
      | zero =>
        intro i hi v hv
        have hi : i = 2 ^ q_ct (q_T (μ 84)) 16 := hi
        refine (u114_33).mpr ?_
        simp only [u114_0, u114_1, u114_4, u114_7, u114_8, u114_9, u114_12, u114_13, u114_14, u114_16, u114_19, u114_20, u114_21, u114_24, u114_25, u114_26, u114_27, u114_28, u114_30, u114_31, u114_35, u114_36, u114_37, u114_38, u114_41, u114_43, u114_46, u114_47, u114_50, u114_53, u114_54, u114_57, u114_60, u114_62, u114_63, u114_66, u114_69, u114_71, u114_72, u114_74, u114_75, u114_76, u114_77, u114_78, u114_80, u114_83, u114_86, u114_87, hpw, show nI (2 ^ q_ct (q_T (μ 84)) 16) ≤ nI i by rw [hi]; exact Int32.le_refl _, if_true]
        rw [hi, ← q_mr_end]
        refine hk _ _ q_hi.rf (fun R2 hr2 => ?_)
        refine m_mends ok h10 (fun μ1 f1 => ?_)
        have f : q_fx μ μ1 := fun o ho => f1 o (by unfold q_scr at ho; omega)
        exact hr2 _ (q_I_fy I f.fy) f.fy.hi
      | succ m ih =>
        intro i hi v hv
        have iN : i < 2 ^ q_ct (q_T (μ 84)) 16 := by omega
        rw [hv iN]
        have e16 := q_e_lt (T := q_T (μ 84)) 16 i iN
        have f16 := q_mc_lt (D := μ 84) i (by omega)
        have nx : ∀ w, w = nI (q_mc (μ 84) (i + 1)) → gc_W (gc_S (99)) cX11_mends 11 0 R 33 [.ref 0, .int (nI (q_num (q_T (μ 84)) 16)), .int (nI (q_ct (q_T (μ 84)) 16)), .int w, .int ((nI (q_e (q_T (μ 84)) 16 i) - nI (q_num (q_T (μ 84)) 16)) &&& nI (q_num (q_T (μ 84)) 16)), .int (nI (i + 1))] [] μ := fun w hw => by
          rw [hw]
          refine ih (i + 1) (by omega) _ (fun h => ?_)
          rw [← sT]; exact q_next h
        have er : q_mc (μ 84) (i + 1) = q_mst (μ 84) (q_mc (μ 84) i) (q_e (q_T (μ 84)) 16 i) := rfl
        unfold q_mst at er
        generalize q_e (q_T (μ 84)) 16 i = x at *
        refine (u114_33).mpr ?_
        have lo : ¬ nI (2 ^ q_ct (q_T (μ 84)) 16) ≤ nI i := nI_ge iN (by omega)
        by_cases g2 : q_ct (fun j => x.testBit j) 16 < q_ct (fun j => (q_mc (μ 84) i).testBit j) 16
        · have d16 := q_ct_le (p := fun j => (q_mc (μ 84) i).testBit j) 16
          have g2' : ¬ nI (q_ct (fun j => (q_mc (μ 84) i).testBit j) 16) ≤ nI (q_ct (fun j => x.testBit j) 16) := nI_ge g2 (by omega)
          simp only [u114_0, u114_1, u114_4, u114_7, u114_8, u114_9, u114_12, u114_13, u114_14, u114_16, u114_19, u114_20, u114_21, u114_24, u114_25, u114_26, u114_27, u114_28, u114_30, u114_31, u114_35, u114_36, u114_37, u114_38, u114_41, u114_43, u114_46, u114_47, u114_50, u114_53, u114_54, u114_57, u114_60, u114_62, u114_63, u114_66, u114_69, u114_71, u114_72, u114_74, u114_75, u114_76, u114_77, u114_78, u114_80, u114_83, u114_86, u114_87, hpw, lo, if_false, ly_kd, ly_al, ly_fv0, ly_fv1, ly_fv2, ly_fv3, ly_fv4, ly_fk, ly_ra, Option.toList, List.cons_append, List.nil_append, q_ski, q_skr, q_sku, if_true, if_false, t_bcX e16, t_bcX f16, g2', t_wholeR q_K31 hR, q_wh_or e16]
          refine t_isOne ?_
          by_cases g3 : q_pn (fun c => q_wh (μ 84) c || x.testBit c) 16 ≤ 1
          · rw [if_pos ⟨g2, g3⟩] at er
            simp only [u114_0, u114_1, u114_4, u114_7, u114_8, u114_9, u114_12, u114_13, u114_14, u114_16, u114_19, u114_20, u114_21, u114_24, u114_25, u114_26, u114_27, u114_28, u114_30, u114_31, u114_35, u114_36, u114_37, u114_38, u114_41, u114_43, u114_46, u114_47, u114_50, u114_53, u114_54, u114_57, u114_60, u114_62, u114_63, u114_66, u114_69, u114_71, u114_72, u114_74, u114_75, u114_76, u114_77, u114_78, u114_80, u114_83, u114_86, u114_87, ly_kd, ly_al, ly_fv0, ly_fv1, ly_fv2, ly_fv3, ly_fv4, ly_fk, ly_ra, Option.toList, List.cons_append, List.nil_append, q_ski, q_skr, q_sku, if_true, if_false, q_bt g3, show ¬ (1 : Int32) = 0 by decide, nI_1]
            exact nx _ (by rw [er])
          · rw [if_neg (fun z => g3 z.2)] at er
            simp only [u114_0, u114_1, u114_4, u114_7, u114_8, u114_9, u114_12, u114_13, u114_14, u114_16, u114_19, u114_20, u114_21, u114_24, u114_25, u114_26, u114_27, u114_28, u114_30, u114_31, u114_35, u114_36, u114_37, u114_38, u114_41, u114_43, u114_46, u114_47, u114_50, u114_53, u114_54, u114_57, u114_60, u114_62, u114_63, u114_66, u114_69, u114_71, u114_72, u114_74, u114_75, u114_76, u114_77, u114_78, u114_80, u114_83, u114_86, u114_87, ly_kd, ly_al, ly_fv0, ly_fv1, ly_fv2, ly_fv3, ly_fv4, ly_fk, ly_ra, Option.toList, List.cons_append, List.nil_append, q_ski, q_skr, q_sku, if_true, if_false, q_bf g3, nI_1]
            exact nx _ (by rw [er])
        · rw [if_neg (fun z => g2 z.1)] at er
          have d16 := q_ct_le (p := fun j => x.testBit j) 16
          have g2' : nI (q_ct (fun j => (q_mc (μ 84) i).testBit j) 16) ≤ nI (q_ct (fun j => x.testBit j) 16) := nI_le (by omega) (by omega)
          simp only [u114_0, u114_1, u114_4, u114_7, u114_8, u114_9, u114_12, u114_13, u114_14, u114_16, u114_19, u114_20, u114_21, u114_24, u114_25, u114_26, u114_27, u114_28, u114_30, u114_31, u114_35, u114_36, u114_37, u114_38, u114_41, u114_43, u114_46, u114_47, u114_50, u114_53, u114_54, u114_57, u114_60, u114_62, u114_63, u114_66, u114_69, u114_71, u114_72, u114_74, u114_75, u114_76, u114_77, u114_78, u114_80, u114_83, u114_86, u114_87, hpw, lo, if_false, ly_kd, ly_al, ly_fv0, ly_fv1, ly_fv2, ly_fv3, ly_fv4, ly_fk, ly_ra, Option.toList, List.cons_append, List.nil_append, q_ski, q_skr, q_sku, if_true, if_false, t_bcX e16, t_bcX f16, g2', nI_1]
          exact nx _ (by rw [er])
    refine main (2 ^ q_ct (q_T (μ 84)) 16) 0 (by omega) 0 (fun _ => ?_)
    rw [q_e_0]; rfl
  · have g10 : ¬ nI (q_ct (q_T (μ 84)) 16) ≤ 10 := (show ¬ nI (q_ct (q_T (μ 84)) 16) ≤ nI 10 from nI_ge (by omega) (by omega))
    simp only [g10, if_false]
    refine hk _ _ (q_hi_up q_hi.rf (by omega)) (fun R2 hr2 => ?_)
    have e84 : gc_up μ 79 3 (μ 79 3 + 1) 84 = μ 84 := gc_up_ne (by omega)
    simp only [s224, u224_0, u224_1, u224_4, u224_5, u224_6, u224_9, u224_11, u224_14, u224_15, u224_16, u224_19, u224_20, u224_21, u224_22, u224_23, u224_25, u224_26, u224_29, u224_30, u224_31, u224_32, u224_33, u224_34, u224_37, u224_38, u224_41, u224_42, u224_45, u224_48, u224_49, u224_50, u224_53, u224_54, u224_55, u224_58, u224_59, u224_62, u224_63, u224_64, u224_67, u224_70, u224_71, ly_kd, ly_al, ly_fv0, ly_fv1, ly_fv2, ly_fv3, ly_fv4, ly_fk, ly_ra, Option.toList, List.cons_append, List.nil_append, q_ski, q_skr, q_sku, if_true, if_false, m_torn (show q_ok (gc_up μ 79 3 (μ 79 3 + 1) 84) by rw [e84]; exact ok), e84, sT3, m_onesX nT, q_ctT, g10, m_f3]
    exact q_P_ref I (by omega) q_fx.rf.fy q_fx.rf.fy hr2
