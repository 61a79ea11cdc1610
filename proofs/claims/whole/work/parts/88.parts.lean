/-! parts -/
theorem q_set_and {p q : Nat → Bool} : q_set p 16 &&& q_set q 16 = q_set (fun c => p c && q c) 16 := by
  refine q_set_eq (by omega) (fun i hi => ?_)
  rw [b_and, q_set_bt 16 (by omega) i hi, q_set_bt 16 (by omega) i hi]
  cases decide (i < 16) <;> simp
theorem q_set_dif {p q : Nat → Bool} : q_set p 16 &&& (q_set q 16 ^^^ -1) = q_set (fun c => p c && !q c) 16 := by
  refine q_set_eq (by omega) (fun i hi => ?_)
  rw [b_and, b_not hi, q_set_bt 16 (by omega) i hi, q_set_bt 16 (by omega) i hi]
  by_cases h : i < 16
  · simp [h]
  · simp [h]
theorem q_set_not {q : Nat → Bool} : 65535 &&& (q_set q 16 ^^^ -1) = q_set (fun c => !q c) 16 := by
  refine q_set_eq (by omega) (fun i hi => ?_)
  rw [b_and, b_not hi, q_set_bt 16 (by omega) i hi, b_65535]
  by_cases h : i < 16
  · simp [h]
  · simp [h]
theorem q_set_or {p q : Nat → Bool} : q_set p 16 ||| q_set q 16 = q_set (fun c => p c || q c) 16 := by
  refine q_set_eq (by omega) (fun i hi => ?_)
  rw [b_or, q_set_bt 16 (by omega) i hi, q_set_bt 16 (by omega) i hi]
  cases decide (i < 16) <;> simp
theorem q_set_inj {p q : Nat → Bool} (h : q_set p 16 = q_set q 16) : ∀ c, c < 16 → p c = q c := fun c hc => by
  have h1 := q_set_bt (p := p) 16 (by omega) c (by omega)
  have h2 := q_set_bt (p := q) 16 (by omega) c (by omega)
  rw [h, h2] at h1
  simpa [hc] using h1.symm
theorem q_set_0 {p : Nat → Bool} : q_set p 16 = 0 ↔ ∀ c, c < 16 → p c = false := by
  have e : q_set (fun _ => false) 16 = 0 := b_ext (fun i hi => by rw [q_set_bt 16 (by omega) i hi, b_0]; simp)
  constructor
  · intro h c hc
    exact q_set_inj (h.trans e.symm) c hc
  · intro h
    rw [← e]; exact q_set_cong h
theorem q_least {P : Nat → Bool} (h : ∃ c, c < 16 ∧ P c = true) : ∃ a, a < 16 ∧ P a = true ∧ ∀ j, j < a → P j = false := by
  obtain ⟨c, hc, hP⟩ := h
  have hle : q_first (fun c => P c = true) 0 16 < 0 + 16 := by
    have := q_first_le (fun c => P c = true) 16 0
    by_cases e : q_first (fun c => P c = true) 0 16 = 16
    · exact absurd hP (q_first_no (fun c => P c = true) 16 0 c (by omega) (by omega))
    · omega
  refine ⟨q_first (fun c => P c = true) 0 16, by omega, q_first_yes (fun c => P c = true) 16 0 hle, fun j hj => ?_⟩
  have := q_first_no (fun c => P c = true) 16 0 j (by omega) hj
  simpa using this
theorem b_neg {x : Int32} {i : Nat} (hi : i < 32) : bt (-x) i = (bt x i ^^ decide (∃ j, j < i ∧ bt x j = true)) := by
  unfold bt
  rw [Int32.toBitVec_neg, BitVec.getLsbD_neg, decide_eq_true hi, Bool.true_and]
theorem q_low1 {P : Nat → Bool} {a : Nat} (ha : a < 16) (hP : P a = true) (hl : ∀ j, j < a → P j = false) : q_set P 16 &&& -(q_set P 16) = q_set (q_rc P a 0) 16 := by
  refine q_set_eq (by omega) (fun i hi => ?_)
  have hb : ∀ j, j < 32 → bt (q_set P 16) j = (decide (j < 16) && P j) := fun j hj => q_set_bt 16 (by omega) j hj
  have ex : (∃ j, j < i ∧ bt (q_set P 16) j = true) ↔ a < i := by
    constructor
    · rintro ⟨j, hj, h⟩
      rw [hb j (by omega), Bool.and_eq_true, decide_eq_true_eq] at h
      by_cases e : j < a
      · rw [hl j e] at h; cases h.2
      · omega
    · intro h
      exact ⟨a, h, by rw [hb a (by omega), hP, decide_eq_true ha]; rfl⟩
  have ed : decide (∃ j, j < i ∧ bt (q_set P 16) j = true) = decide (a < i) := by
    by_cases z : a < i
    · rw [decide_eq_true z, decide_eq_true (ex.mpr z)]
    · rw [decide_eq_false z, decide_eq_false (fun y => z (ex.mp y))]
  rw [b_and, b_neg hi, hb i hi, ed]
  show _ = (decide (i < 16) && decide (i = a))
  by_cases h1 : i < a
  · rw [hl i h1]
    have : ¬ i = a := by omega
    simp [this]
  · by_cases h2 : i = a
    · subst h2; simp [ha, hP]
    · have : a < i := by omega
      simp [h2, this]
theorem t_pol0 {d : Nat} {R : gR} {μ : gM} (h : R (some (.int 0)) μ) : gc_S (d + 2) 110 [.int 0] μ R := by
  simp only [s110, u110_0, u110_1, u110_2, u110_3, u110_4, u110_5, u110_6, u110_8, u110_10, u110_13, u110_14, u110_17, u110_18, u110_19, u110_20, u110_21, u110_22, u110_25, u110_28, u110_29, u110_30, u110_33, u110_36, u110_37, Option.toList, List.cons_append, List.nil_append, q_ski, q_skr, q_sku, if_true, if_false, show (0 : Int32) &&& -0 = 0 by decide]
  refine (u110_7).mpr ?_
  simp only [u110_0, u110_1, u110_2, u110_3, u110_4, u110_5, u110_6, u110_8, u110_10, u110_13, u110_14, u110_17, u110_18, u110_19, u110_20, u110_21, u110_22, u110_25, u110_28, u110_29, u110_30, u110_33, u110_36, u110_37, show ¬ (16 : Int32) ≤ 0 by decide, t_spread, Option.toList, List.cons_append, List.nil_append, q_ski, q_skr, q_sku, if_true, if_false, show q_spr 0 &&& 0 = 0 by decide]
  exact h
theorem t_pol {d : Nat} {R : gR} {μ : gM} {P : Nat → Bool} {a : Nat} (ha : a < 16) (hP : P a = true) (hl : ∀ j, j < a → P j = false) (h : R (some (.int (q_set (q_rc P a 16) 16))) μ) : gc_S (d + 2) 110 [.int (q_set P 16)] μ R := by
  simp only [s110, u110_0, u110_1, u110_2, u110_3, u110_4, u110_5, u110_6, u110_8, u110_10, u110_13, u110_14, u110_17, u110_18, u110_19, u110_20, u110_21, u110_22, u110_25, u110_28, u110_29, u110_30, u110_33, u110_37, Option.toList, List.cons_append, List.nil_append, q_ski, q_skr, q_sku, if_true, if_false, q_low1 ha hP hl]
  have main : ∀ m i, i + m = 16 → ∀ l3, gc_sk l3 = true → gc_W (gc_S (d+1)) cX11_partOfLeast 11 0 R 7 [.int (q_set P 16), .int (q_set (q_rc P a i) 16), .int (nI i), l3] [] μ := by
    intro m
    induction m with
    | zero =>
      intro i hi l3 h3
      obtain rfl : i = 16 := hi
      refine (u110_7).mpr ?_
      simp only [u110_0, u110_1, u110_2, u110_3, u110_4, u110_5, u110_6, u110_8, u110_10, u110_13, u110_14, u110_17, u110_18, u110_19, u110_20, u110_21, u110_22, u110_25, u110_28, u110_29, u110_30, u110_33, u110_36, u110_37, show (16 : Int32) ≤ nI 16 by decide, if_true]
      exact h
    | succ m ih =>
      intro i hi l3 h3
      have es : q_spr (q_set (q_rc P a i) 16) &&& q_set P 16 = q_set (q_rc P a (i + 1)) 16 := by
        rw [q_spr_set, q_set_and]; rfl
      refine (u110_7).mpr ?_
      by_cases e : q_set (q_rc P a (i + 1)) 16 = q_set (q_rc P a i) 16
      · have st := q_rc_st (q_set_inj e) (16 - i)
        rw [show i + (16 - i) = 16 by omega] at st
        simp only [u110_0, u110_1, u110_2, u110_3, u110_4, u110_5, u110_6, u110_8, u110_10, u110_13, u110_14, u110_17, u110_18, u110_19, u110_20, u110_21, u110_22, u110_25, u110_28, u110_29, u110_30, u110_33, u110_36, u110_37, q_nle (show i < 16 by omega) (by decide) (show (16 : Int32) = nI 16 from rfl), if_false, t_spread, Option.toList, List.cons_append, List.nil_append, q_ski, q_skr, q_sku, if_true, if_false, h3, es, e]
        rw [← q_set_cong st]
        exact h
      · simp only [u110_0, u110_1, u110_2, u110_3, u110_4, u110_5, u110_6, u110_8, u110_10, u110_13, u110_14, u110_17, u110_18, u110_19, u110_20, u110_21, u110_22, u110_25, u110_28, u110_29, u110_30, u110_33, u110_37, q_nle (show i < 16 by omega) (by decide) (show (16 : Int32) = nI 16 from rfl), if_false, t_spread, Option.toList, List.cons_append, List.nil_append, q_ski, q_skr, q_sku, if_true, if_false, h3, es, eq_false e, nI_1]
        exact ih (i + 1) (by omega) _ rfl
  exact main 16 0 rfl _ q_sku
/-- what is left of a set when the parts from below c on are taken away, and how many they were -/
def q_left (P : Nat → Bool) : Nat → Nat → Bool
  | 0 => P
  | c + 1 => if q_left P c c = true then fun b => q_left P c b && !q_rc P c 16 b else q_left P c
def q_pn (P : Nat → Bool) : Nat → Nat
  | 0 => 0
  | c + 1 => q_pn P c + (if q_left P c c = true then 1 else 0)
theorem q_left_P {P : Nat → Bool} : ∀ c b, q_left P c b = true → P b = true
  | 0, _, h => h
  | c + 1, b, h => by
    have e : q_left P (c + 1) = if q_left P c c = true then fun b => q_left P c b && !q_rc P c 16 b else q_left P c := rfl
    rw [e] at h
    by_cases g : q_left P c c = true
    · rw [if_pos g] at h
      exact q_left_P c b (Bool.and_eq_true _ _ ▸ h).1
    · rw [if_neg g] at h
      exact q_left_P c b h
theorem q_adj_sy : ∀ x, x < 16 → ∀ y, y < 16 → q_adj x y = q_adj y x := by decide +kernel
theorem q_left_cl {P : Nat → Bool} : ∀ c, c ≤ 16 → ∀ x y, x < 16 → y < 16 → P x = true → P y = true → q_adj x y = true → q_left P c x = false → q_left P c y = false
  | 0, _, x, y, _, _, h1, _, _, h => by
    have h : P x = false := h
    rw [h1] at h; cases h
  | c + 1, hc, x, y, hx, hy, h1, h2, h3, h => by
    have ih := q_left_cl (P := P) c (by omega) x y hx hy h1 h2 h3
    have e : q_left P (c + 1) = if q_left P c c = true then fun b => q_left P c b && !q_rc P c 16 b else q_left P c := rfl
    rw [e] at h ⊢
    by_cases g : q_left P c c = true
    · rw [if_pos g] at h ⊢
      have Pc := q_left_P c c g
      cases e1 : q_left P c x with
      | false => rw [ih e1]; rfl
      | true =>
        rw [e1] at h
        have h : (true && !q_rc P c 16 x) = false := h
        have r : q_rc P c 16 x = true := by
          cases e2 : q_rc P c 16 x with
          | true => rfl
          | false => rw [e2] at h; cases h
        have r2 : q_rc P c 17 y = true := q_rc_s.mpr ⟨Or.inr ⟨x, hx, h3, r⟩, h2⟩
        rw [q_rc_fix (by omega) Pc (by omega) hy] at r2
        show (q_left P c y && !q_rc P c 16 y) = false
        rw [r2]; simp
    · rw [if_neg g] at h ⊢
      exact ih h
theorem q_rc_left {P : Nat → Bool} {c a : Nat} (hc : c ≤ 16) (ha : a < 16) (hL : q_left P c a = true) : ∀ n b, b < 16 → q_rc (q_left P c) a n b = q_rc P a n b
  | 0, _, _ => rfl
  | n + 1, b, hb => by
    have ih := q_rc_left hc ha hL n
    rw [Bool.eq_iff_iff, q_rc_s, q_rc_s]
    constructor
    · rintro ⟨h1 | ⟨x, hx, h1, h2⟩, h3⟩
      · exact ⟨Or.inl (by rw [← ih b hb]; exact h1), q_left_P c b h3⟩
      · exact ⟨Or.inr ⟨x, hx, h1, by rw [← ih x hx]; exact h2⟩, q_left_P c b h3⟩
    · rintro ⟨h1 | ⟨x, hx, h1, h2⟩, h3⟩
      · rw [← ih b hb] at h1
        exact ⟨Or.inl h1, q_rc_P hL n b h1⟩
      · rw [← ih x hx] at h2
        refine ⟨Or.inr ⟨x, hx, h1, h2⟩, ?_⟩
        have hx2 := q_rc_P hL n x h2
        cases e : q_left P c b with
        | true => rfl
        | false =>
          have := q_left_cl c hc b x hb hx h3 (q_left_P c x hx2) (by rw [q_adj_sy b hb x hx]; exact h1) e
          rw [hx2] at this; cases this
theorem q_left_sk {P : Nat → Bool} {c : Nat} : ∀ k, (∀ b, c ≤ b → b < c + k → q_left P c b = false) → q_left P (c + k) = q_left P c ∧ q_pn P (c + k) = q_pn P c
  | 0, _ => ⟨rfl, rfl⟩
  | k + 1, h => by
    obtain ⟨h1, h2⟩ := q_left_sk k (fun b x y => h b x (by omega))
    have hf : ¬ q_left P (c + k) (c + k) = true := by rw [h1, h (c + k) (by omega) (by omega)]; decide
    constructor
    · show (if q_left P (c + k) (c + k) = true then fun b => q_left P (c + k) b && !q_rc P (c + k) 16 b else q_left P (c + k)) = _
      rw [if_neg hf, h1]
    · show q_pn P (c + k) + (if q_left P (c + k) (c + k) = true then 1 else 0) = _
      rw [if_neg hf, h2, Nat.add_zero]
theorem q_pn_mo {P : Nat → Bool} {c : Nat} : ∀ k, q_pn P c ≤ q_pn P (c + k)
  | 0 => Nat.le_refl _
  | k + 1 => by
    have := q_pn_mo (P := P) (c := c) k
    show q_pn P c ≤ q_pn P (c + k) + (if q_left P (c + k) (c + k) = true then 1 else 0)
    omega
theorem q_pn_le {P : Nat → Bool} : ∀ c, q_pn P c ≤ c
  | 0 => Nat.le_refl _
  | c + 1 => by
    have := q_pn_le (P := P) c
    show q_pn P c + (if q_left P c c = true then 1 else 0) ≤ c + 1
    split <;> omega
theorem q_left_hit {P : Nat → Bool} {a : Nat} (h : q_left P a a = true) : q_left P (a + 1) = (fun b => q_left P a b && !q_rc P a 16 b) ∧ q_pn P (a + 1) = q_pn P a + 1 := by
  constructor
  · show (if q_left P a a = true then fun b => q_left P a b && !q_rc P a 16 b else q_left P a) = _
    rw [if_pos h]
  · show q_pn P a + (if q_left P a a = true then 1 else 0) = _
    rw [if_pos h]
theorem t_partsOf {d : Nat} {R : gR} {μ : gM} {P : Nat → Bool} (h : R (some (.int (nI (q_pn P 16)))) μ) : gc_S (d + 3) 111 [.int (q_set P 16)] μ R := by
  simp only [s111, u111_0, u111_1, u111_2, u111_3, u111_4, u111_5, u111_7, u111_9, u111_12, u111_13, u111_16, u111_17, u111_18, u111_21, u111_22, u111_23, u111_24, u111_25, u111_28, u111_31, u111_34, u111_35, Option.toList, List.cons_append, List.nil_append, q_ski, q_skr, q_sku, if_true, if_false]
  have main : ∀ m i c, i + m = 16 → i ≤ c → c ≤ 16 → (∀ b, b < c → q_left P c b = false) → gc_W (gc_S (d+2)) cX11_partsOf 11 0 R 6 [.int (q_set P 16), .int (q_set (q_left P c) 16), .int (nI (q_pn P c)), .int (nI i)] [] μ := by
    intro m
    induction m with
    | zero =>
      intro i c hi hic hc hb
      have hi : i = 16 := hi
      have e : c = 16 := by omega
      refine (u111_6).mpr ?_
      rw [hi, e]
      simp only [u111_0, u111_1, u111_2, u111_3, u111_4, u111_5, u111_7, u111_9, u111_12, u111_13, u111_16, u111_17, u111_18, u111_21, u111_22, u111_23, u111_24, u111_25, u111_28, u111_31, u111_34, u111_35, show (16 : Int32) ≤ nI 16 by decide, if_true]
      exact h
    | succ m ih =>
      intro i c hi hic hc hb
      refine (u111_6).mpr ?_
      by_cases e : ∃ b, b < 16 ∧ q_left P c b = true
      · obtain ⟨a, ha, hPa, hla⟩ := q_least e
        have hca : c ≤ a := by
          by_cases z : a < c
          · rw [hb a z] at hPa; cases hPa
          · omega
        obtain ⟨s1, s2⟩ := q_left_sk (P := P) (c := c) (a - c) (fun b _ y => hla b (by omega))
        rw [show c + (a - c) = a by omega] at s1 s2
        have hit : q_left P a a = true := by rw [s1]; exact hPa
        obtain ⟨t1, t2⟩ := q_left_hit hit
        have n0 : ¬ q_set (q_left P c) 16 = 0 := fun z => by
          have := q_set_0.mp z a ha
          rw [hPa] at this; cases this
        simp only [u111_0, u111_1, u111_2, u111_3, u111_4, u111_5, u111_7, u111_9, u111_12, u111_13, u111_16, u111_17, u111_18, u111_21, u111_22, u111_23, u111_24, u111_25, u111_28, u111_31, u111_34, u111_35, q_nle (show i < 16 by omega) (by decide) (show (16 : Int32) = nI 16 from rfl), if_false, eq_false n0, Option.toList, List.cons_append, List.nil_append, q_ski, q_skr, q_sku, if_true, if_false]
        refine t_pol ha hPa hla ?_
        simp only [u111_0, u111_1, u111_2, u111_3, u111_4, u111_5, u111_7, u111_9, u111_12, u111_13, u111_16, u111_17, u111_18, u111_21, u111_22, u111_23, u111_24, u111_25, u111_28, u111_31, u111_34, u111_35, Option.toList, List.cons_append, List.nil_append, q_ski, q_skr, q_sku, if_true, if_false, nI_1, q_set_dif]
        have el : q_set (fun b => q_left P c b && !q_rc (q_left P c) a 16 b) 16 = q_set (q_left P (a + 1)) 16 := q_set_cong (fun b hb => by
          rw [t1, s1, q_rc_left hc ha hPa 16 b hb])
        rw [el, ← s2, ← t2]
        refine ih (i + 1) (a + 1) (by omega) (by omega) (by omega) (fun b hb => ?_)
        rw [t1, s1]
        by_cases z : b = a
        · subst z
          have : q_rc P b 16 b = true := q_rc_mk (q_left_P c b hPa) (n := 0) (decide_eq_true rfl) 16
          show (q_left P c b && !q_rc P b 16 b) = false
          rw [this]; simp
        · show (q_left P c b && !q_rc P a 16 b) = false
          rw [hla b (by omega)]; rfl
      · have e0 : ∀ b, b < 16 → q_left P c b = false := fun b hb => by
          cases z : q_left P c b with
          | false => rfl
          | true => exact absurd ⟨b, hb, z⟩ e
        obtain ⟨-, s2⟩ := q_left_sk (P := P) (c := c) (16 - c) (fun b _ y => e0 b (by omega))
        rw [show c + (16 - c) = 16 by omega] at s2
        simp only [u111_0, u111_1, u111_2, u111_3, u111_4, u111_5, u111_7, u111_9, u111_12, u111_13, u111_16, u111_17, u111_18, u111_21, u111_22, u111_23, u111_24, u111_25, u111_28, u111_31, u111_34, u111_35, q_nle (show i < 16 by omega) (by decide) (show (16 : Int32) = nI 16 from rfl), if_false, eq_true (q_set_0.mpr e0), if_true]
        rw [← s2]
        exact h
  exact main 16 0 0 rfl (by omega) (by omega) (fun b hb => absurd hb (by omega))
set_option maxHeartbeats 1000000 in
theorem m_partsOf {d : Nat} {R : gR} {μ : gM} {P : Nat → Bool} (h : ∀ μ', (∀ o, o ≠ 94 → μ' o = μ o) → R (some (.int (nI (q_pn P 16)))) μ') : gc_S (d + 3) 220 [.ref 83, .int (q_set P 16)] μ R := by
  simp only [s220, u220_0, u220_1, u220_2, u220_3, u220_4, u220_5, u220_9, u220_11, u220_14, u220_15, u220_17, u220_18, u220_19, u220_20, u220_21, u220_24, u220_27, u220_28, u220_30, u220_31, u220_34, u220_35, u220_39, u220_41, u220_44, u220_45, u220_46, u220_49, u220_51, u220_52, u220_55, u220_58, u220_59, u220_61, u220_62, u220_63, u220_64, u220_67, u220_68, u220_69, u220_70, u220_73, u220_79, u220_82, u220_83, Option.toList, List.cons_append, List.nil_append, q_ski, q_skr, q_sku, if_true, if_false]
  have main : ∀ m c, c + m = 16 → ∀ μ0 : gM, (∀ o, o ≠ 94 → μ0 o = μ o) → ∀ l5, gc_sk l5 = true → gc_W (gc_S (d+2)) cX12_partsOf 12 0 R 7 [.ref 83, .int (q_set P 16), .int (q_set (q_left P c) 16), .int (nI (q_pn P c)), .int (nI c), l5] [] μ0 := by
    intro m
    induction m with
    | zero =>
      intro c hc μ0 f0 l5 h5
      obtain rfl : c = 16 := hc
      refine (u220_7).mpr ?_
      simp only [u220_0, u220_1, u220_2, u220_3, u220_4, u220_5, u220_9, u220_11, u220_14, u220_15, u220_17, u220_18, u220_19, u220_20, u220_21, u220_24, u220_27, u220_28, u220_30, u220_31, u220_34, u220_35, u220_39, u220_41, u220_44, u220_45, u220_46, u220_49, u220_51, u220_52, u220_55, u220_58, u220_59, u220_61, u220_62, u220_63, u220_64, u220_67, u220_68, u220_69, u220_70, u220_73, u220_79, u220_82, u220_83, show (16 : Int32) ≤ nI 16 by decide, if_true]
      exact h μ0 f0
    | succ m ih =>
      intro c hc μ0 f0 l5 h5
      have c16 : c < 16 := by omega
      have bit : (q_set (q_left P c) 16 >>> (nI c &&& 31)) &&& 1 = 1 ↔ q_left P c c = true := by
        rw [q_bit1o (by omega), q_set_bt 16 (by omega) c (by omega)]; simp [c16]
      refine (u220_7).mpr ?_
      by_cases hit : q_left P c c = true
      · obtain ⟨t1, t2⟩ := q_left_hit hit
        have Pc := q_left_P c c hit
        simp only [u220_0, u220_1, u220_2, u220_3, u220_4, u220_5, u220_9, u220_11, u220_14, u220_15, u220_17, u220_18, u220_19, u220_20, u220_21, u220_24, u220_27, u220_28, u220_30, u220_31, u220_34, u220_35, u220_39, u220_41, u220_44, u220_45, u220_46, u220_49, u220_51, u220_52, u220_55, u220_58, u220_59, u220_61, u220_62, u220_63, u220_64, u220_67, u220_68, u220_69, u220_70, u220_73, u220_79, u220_82, u220_83, q_nle c16 (by decide) (show (16 : Int32) = nI 16 from rfl), if_false, bit, eq_true hit, if_true, ly_kd, ly_al, ly_fv0, ly_fv1, ly_fv2, ly_fv3, ly_fv4, ly_fk, ly_ra, Option.toList, List.cons_append, List.nil_append, q_ski, q_skr, q_sku, if_true, if_false, nI_1, ← t2]
        refine m_measures c16 (fun μ1 f1 w1 => ?_)
        simp only [u220_0, u220_1, u220_2, u220_3, u220_4, u220_5, u220_9, u220_11, u220_14, u220_15, u220_17, u220_18, u220_19, u220_20, u220_21, u220_24, u220_27, u220_28, u220_30, u220_31, u220_34, u220_35, u220_39, u220_41, u220_44, u220_45, u220_46, u220_49, u220_51, u220_52, u220_55, u220_58, u220_59, u220_61, u220_62, u220_63, u220_64, u220_67, u220_68, u220_69, u220_70, u220_73, u220_79, u220_82, u220_83, ly_kd, ly_al, ly_fv0, ly_fv1, ly_fv2, ly_fv3, ly_fv4, ly_fk, ly_ra, Option.toList, List.cons_append, List.nil_append, q_ski, q_skr, q_sku, if_true, if_false, h5]
        have far : ∀ b, b < 16 → (100000 ≤ μ1 94 b ↔ ¬ q_rc P c 16 b = true) := fun b hb => by
          obtain ⟨g1, g2⟩ := q_wy_rc c16 Pc 16 (by omega) b hb
          rw [w1 b hb]
          cases e : q_rc P c 16 b with
          | true =>
            obtain ⟨k, hk, e1, -⟩ := g1 e
            rw [e1]
            exact ⟨fun z => absurd z (show ¬ nI 100000 ≤ nI k from nI_ge (by omega) (by omega)), fun z => absurd rfl z⟩
          | false =>
            rw [g2 e]
            exact ⟨fun _ z => (by cases z), fun _ => Int32.le_refl _⟩
        have inner : ∀ m b, b + m = 16 → ∀ l, l = q_set (fun x => q_left P c x && !(decide (x < b) && q_rc P c 16 x)) 16 → gc_W (gc_S (d+2)) cX12_partsOf 12 0 R 37 [.ref 83, .int (q_set P 16), .int l, .int (nI (q_pn P (c + 1))), .int (nI c), .int (nI b)] [] μ1 := by
          intro m
          induction m with
          | zero =>
            intro b hb l hl
            obtain rfl : b = 16 := hb
            have el : l = q_set (q_left P (c + 1)) 16 := by
              rw [hl, t1]
              exact q_set_cong (fun x hx => by rw [decide_eq_true hx, Bool.true_and])
            rw [el]
            refine (u220_37).mpr ?_
            simp only [u220_0, u220_1, u220_2, u220_3, u220_4, u220_5, u220_9, u220_11, u220_14, u220_15, u220_17, u220_18, u220_19, u220_20, u220_21, u220_24, u220_27, u220_28, u220_30, u220_31, u220_34, u220_35, u220_39, u220_41, u220_44, u220_45, u220_46, u220_49, u220_51, u220_52, u220_55, u220_58, u220_59, u220_61, u220_62, u220_63, u220_64, u220_67, u220_68, u220_69, u220_70, u220_73, u220_76, u220_79, u220_82, u220_83, show (16 : Int32) ≤ nI 16 by decide, if_true, nI_1]
            exact ih (c + 1) (by omega) μ1 (fun o ho => by rw [f1 o ho]; exact f0 o ho) _ rfl
          | succ m ib =>
            intro b hb l hl
            have b16 : b < 16 := by omega
            refine (u220_37).mpr ?_
            by_cases g : q_rc P c 16 b = true
            · have g' : ¬ 100000 ≤ μ1 94 b := fun z => (far b b16).mp z g
              simp only [u220_0, u220_1, u220_2, u220_3, u220_4, u220_5, u220_9, u220_11, u220_14, u220_15, u220_17, u220_18, u220_19, u220_20, u220_21, u220_24, u220_27, u220_28, u220_30, u220_31, u220_34, u220_35, u220_39, u220_41, u220_44, u220_45, u220_46, u220_49, u220_51, u220_52, u220_55, u220_58, u220_59, u220_61, u220_62, u220_63, u220_64, u220_67, u220_68, u220_69, u220_70, u220_73, u220_79, u220_82, u220_83, q_nle b16 (by decide) (show (16 : Int32) = nI 16 from rfl), if_false, ly_kd, ly_al, ly_fv0, ly_fv1, ly_fv2, ly_fv3, ly_fv4, ly_fk, ly_ra, Option.toList, List.cons_append, List.nil_append, q_ski, q_skr, q_sku, if_true, if_false, vp_in_nI b16 (by decide), nI_clamp (show b < 2 ^ 31 by omega), true_and, g', nI_1]
              refine ib (b + 1) (by omega) _ ?_
              rw [hl]
              refine q_set_eq (by omega) (fun i hi => ?_)
              rw [b_and, b_not hi, b_sh1 (by omega) hi, q_set_bt 16 (by omega) i hi]
              by_cases ei : i = b
              · subst ei; simp [g]
              · have : (i < b + 1) ↔ i < b := by omega
                simp [ei, this]
            · have g' : 100000 ≤ μ1 94 b := (far b b16).mpr g
              simp only [u220_0, u220_1, u220_2, u220_3, u220_4, u220_5, u220_9, u220_11, u220_14, u220_15, u220_17, u220_18, u220_19, u220_20, u220_21, u220_24, u220_27, u220_28, u220_30, u220_31, u220_34, u220_35, u220_39, u220_41, u220_44, u220_45, u220_46, u220_49, u220_51, u220_52, u220_55, u220_58, u220_59, u220_61, u220_62, u220_63, u220_64, u220_67, u220_68, u220_69, u220_70, u220_73, u220_79, u220_82, u220_83, q_nle b16 (by decide) (show (16 : Int32) = nI 16 from rfl), if_false, ly_kd, ly_al, ly_fv0, ly_fv1, ly_fv2, ly_fv3, ly_fv4, ly_fk, ly_ra, Option.toList, List.cons_append, List.nil_append, q_ski, q_skr, q_sku, if_true, if_false, vp_in_nI b16 (by decide), nI_clamp (show b < 2 ^ 31 by omega), true_and, g', nI_1]
              refine ib (b + 1) (by omega) _ ?_
              rw [hl]
              refine q_set_eq (by omega) (fun i hi => ?_)
              rw [b_and, b_m1 i hi, q_set_bt 16 (by omega) i hi]
              by_cases ei : i = b
              · subst ei
                simp only [Bool.not_eq_true] at g
                simp [g]
              · have : (i < b + 1) ↔ i < b := by omega
                simp [this]
        refine inner 16 0 rfl _ (q_set_cong (fun x hx => ?_))
        simp
      · have e1 : q_left P (c + 1) = q_left P c := by
          show (if q_left P c c = true then fun b => q_left P c b && !q_rc P c 16 b else q_left P c) = _
          rw [if_neg hit]
        have e2 : q_pn P (c + 1) = q_pn P c := by
          show q_pn P c + (if q_left P c c = true then 1 else 0) = _
          rw [if_neg hit]; rfl
        have nx := ih (c + 1) (by omega) μ0 f0 l5 h5
        rw [e1, e2] at nx
        simp only [u220_0, u220_1, u220_2, u220_3, u220_4, u220_5, u220_9, u220_11, u220_14, u220_15, u220_17, u220_18, u220_19, u220_20, u220_21, u220_24, u220_27, u220_28, u220_30, u220_31, u220_34, u220_35, u220_39, u220_41, u220_44, u220_45, u220_46, u220_49, u220_51, u220_52, u220_55, u220_58, u220_59, u220_61, u220_62, u220_63, u220_64, u220_67, u220_68, u220_69, u220_70, u220_73, u220_76, u220_79, u220_82, u220_83, q_nle c16 (by decide) (show (16 : Int32) = nI 16 from rfl), if_false, bit, eq_false hit, Option.toList, List.cons_append, List.nil_append, q_ski, q_skr, q_sku, if_true, if_false, nI_1]
        exact nx
  exact main 16 0 rfl μ (fun _ _ => rfl) _ q_sku
