/-! sets that grow: who is reached -/
def q_any (p : Nat → Bool) : Nat → Bool
  | 0 => false
  | n + 1 => q_any p n || p n
theorem q_any_iff {p : Nat → Bool} : ∀ n, q_any p n = true ↔ ∃ c, c < n ∧ p c = true
  | 0 => ⟨fun h => (by cases h), fun ⟨_, h, _⟩ => absurd h (Nat.not_lt_zero _)⟩
  | n + 1 => by
    show (q_any p n || p n) = true ↔ _
    rw [Bool.or_eq_true, q_any_iff n]
    constructor
    · rintro (⟨c, h1, h2⟩ | h)
      · exact ⟨c, by omega, h2⟩
      · exact ⟨n, by omega, h⟩
    · rintro ⟨c, h1, h2⟩
      by_cases e : c = n
      · subst e; exact Or.inr h2
      · exact Or.inl ⟨c, by omega, h2⟩
theorem q_nbd {x y : Nat} : Nat.beq x y = decide (x = y) := by
  by_cases h : x = y
  · subst h; rw [Nat.beq_refl]; exact (decide_eq_true rfl).symm
  · rw [decide_eq_false h]
    cases e : Nat.beq x y with
    | false => rfl
    | true => exact absurd (Nat.eq_of_beq_eq_true e) h
def q_sb (p : Nat → Bool) (b : Nat) : Bool := p b || q_any (fun a => q_adj a b && p a) 16
theorem b_shl1 (x : Int32) {i : Nat} (hi : i < 32) : bt (x <<< ((1 : Int32) &&& 31)) i = (decide (1 ≤ i) && bt x (i - 1)) := b_shl 1 (by omega) x hi
theorem b_shl4 (x : Int32) {i : Nat} (hi : i < 32) : bt (x <<< ((4 : Int32) &&& 31)) i = (decide (4 ≤ i) && bt x (i - 4)) := b_shl 4 (by omega) x hi
theorem b_ssh1 (x : Int32) {i : Nat} (hi : i < 32) : bt (x >>> ((1 : Int32) &&& 31)) i = if 1 + i < 32 then bt x (1 + i) else bt x 31 := b_sshr 1 (by omega) x hi
theorem b_ssh4 (x : Int32) {i : Nat} (hi : i < 32) : bt (x >>> ((4 : Int32) &&& 31)) i = if 4 + i < 32 then bt x (4 + i) else bt x 31 := b_sshr 4 (by omega) x hi
theorem b_mR : ∀ i, i < 32 → bt (-34953) i = !(decide (i = 3) || decide (i = 7) || decide (i = 11) || decide (i = 15)) := by decide +kernel
theorem b_mL : ∀ i, i < 32 → bt (-4370) i = !(decide (i = 0) || decide (i = 4) || decide (i = 8) || decide (i = 12)) := by decide +kernel
set_option maxHeartbeats 4000000 in
theorem q_spr_set {p : Nat → Bool} : q_spr (q_set p 16) = q_set (q_sb p) 16 := by
  refine q_set_eq (by omega) (fun i hi => ?_)
  have hb : ∀ j, j < 32 → bt (q_set p 16) j = (decide (j < 16) && p j) := fun j hj => q_set_bt 16 (by omega) j hj
  unfold q_spr
  by_cases h : i < 16
  · have r : i = 0 ∨ i = 1 ∨ i = 2 ∨ i = 3 ∨ i = 4 ∨ i = 5 ∨ i = 6 ∨ i = 7 ∨ i = 8 ∨ i = 9 ∨ i = 10 ∨ i = 11 ∨ i = 12 ∨ i = 13 ∨ i = 14 ∨ i = 15 := by omega
    clear hi h
    rcases r with rfl | rfl | rfl | rfl | rfl | rfl | rfl | rfl | rfl | rfl | rfl | rfl | rfl | rfl | rfl | rfl <;>
    (simp [b_or, b_and, b_shl1, b_shl4, b_ssh1, b_ssh4, b_mR, b_mL, b_65535, hb, q_sb, q_any, q_adj, q_nbd, Bool.or_comm, Bool.or_left_comm, Bool.or_assoc])
  · have r : i = 16 ∨ i = 17 ∨ i = 18 ∨ i = 19 ∨ 20 ≤ i := by omega
    rcases r with rfl | rfl | rfl | rfl | r
    · simp [b_or, b_and, b_shl1, b_shl4, b_ssh1, b_ssh4, b_mR, b_mL, b_65535, hb]
    · simp [b_or, b_and, b_shl1, b_shl4, b_ssh1, b_ssh4, b_mR, b_mL, b_65535, hb]
    · simp [b_or, b_and, b_shl1, b_shl4, b_ssh1, b_ssh4, b_mR, b_mL, b_65535, hb]
    · simp [b_or, b_and, b_shl1, b_shl4, b_ssh1, b_ssh4, b_mR, b_mL, b_65535, hb]
    · rw [b_or, b_or, b_or, b_or, b_and, b_shl1 _ hi, b_shl4 _ hi, b_ssh1 _ hi, b_ssh4 _ hi, b_65535, b_and, hb i hi, hb (i - 1) (by omega)]
      rw [show decide (i < 16) = false from decide_eq_false (by omega), show decide (i - 1 < 16) = false from decide_eq_false (by omega)]
      split
      · split
        · rw [b_and, hb (1 + i) (by omega), hb (4 + i) (by omega), show decide (1 + i < 16) = false from decide_eq_false (by omega), show decide (4 + i < 16) = false from decide_eq_false (by omega)]
          simp
        · rw [b_and, hb (1 + i) (by omega), hb 31 (by omega), show decide (1 + i < 16) = false from decide_eq_false (by omega)]
          simp
      · rw [if_neg (by omega), b_and, hb 31 (by omega)]
        simp
/-- who is reached from a by cells of P in n steps -/
def q_rc (P : Nat → Bool) (a : Nat) : Nat → Nat → Bool
  | 0 => fun c => decide (c = a)
  | n + 1 => fun c => q_sb (q_rc P a n) c && P c
theorem q_rc_P {P : Nat → Bool} {a : Nat} (hP : P a = true) : ∀ n c, q_rc P a n c = true → P c = true
  | 0, c, h => by
    have h := of_decide_eq_true (show decide (c = a) = true from h)
    subst h; exact hP
  | n + 1, c, h => by
    have h : (q_sb (q_rc P a n) c && P c) = true := h
    rw [Bool.and_eq_true] at h
    exact h.2
theorem q_rc_s {P : Nat → Bool} {a n c : Nat} : q_rc P a (n + 1) c = true ↔ (q_rc P a n c = true ∨ ∃ b, b < 16 ∧ q_adj b c = true ∧ q_rc P a n b = true) ∧ P c = true := by
  show (q_sb (q_rc P a n) c && P c) = true ↔ _
  unfold q_sb
  rw [Bool.and_eq_true, Bool.or_eq_true, q_any_iff]
  constructor
  · rintro ⟨h | ⟨b, hb, h⟩, h2⟩
    · exact ⟨Or.inl h, h2⟩
    · rw [Bool.and_eq_true] at h
      exact ⟨Or.inr ⟨b, hb, h.1, h.2⟩, h2⟩
  · rintro ⟨h | ⟨b, hb, h, h3⟩, h2⟩
    · exact ⟨Or.inl h, h2⟩
    · exact ⟨Or.inr ⟨b, hb, by rw [h, h3]; rfl⟩, h2⟩
theorem q_rc_m {P : Nat → Bool} {a : Nat} (hP : P a = true) {n c : Nat} (h : q_rc P a n c = true) : q_rc P a (n + 1) c = true := q_rc_s.mpr ⟨Or.inl h, q_rc_P hP n c h⟩
theorem q_rc_mk {P : Nat → Bool} {a : Nat} (hP : P a = true) {n c : Nat} (h : q_rc P a n c = true) : ∀ k, q_rc P a (n + k) c = true
  | 0 => h
  | k + 1 => q_rc_m hP (q_rc_mk hP h k)
theorem q_rc_st {P : Nat → Bool} {a n : Nat} (h : ∀ c, c < 16 → q_rc P a (n + 1) c = q_rc P a n c) : ∀ k c, c < 16 → q_rc P a (n + k) c = q_rc P a n c
  | 0, _, _ => rfl
  | k + 1, c, hc => by
    rw [← h c hc]
    rw [Bool.eq_iff_iff, show n + (k + 1) = (n + k) + 1 from rfl, q_rc_s, q_rc_s, q_rc_st h k c hc]
    constructor
    · rintro ⟨h1 | ⟨b, hb, h1, h2⟩, h3⟩
      · exact ⟨Or.inl h1, h3⟩
      · exact ⟨Or.inr ⟨b, hb, h1, by rw [← q_rc_st h k b hb]; exact h2⟩, h3⟩
    · rintro ⟨h1 | ⟨b, hb, h1, h2⟩, h3⟩
      · exact ⟨Or.inl h1, h3⟩
      · exact ⟨Or.inr ⟨b, hb, h1, by rw [q_rc_st h k b hb]; exact h2⟩, h3⟩
theorem q_ct_mo {p q : Nat → Bool} : ∀ {n : Nat}, (∀ k, k < n → p k = true → q k = true) → q_ct p n ≤ q_ct q n ∧ ((∃ k, k < n ∧ p k = false ∧ q k = true) → q_ct p n + 1 ≤ q_ct q n)
  | 0, _ => ⟨Nat.le_refl _, fun ⟨_, h, _⟩ => absurd h (Nat.not_lt_zero _)⟩
  | n + 1, h => by
    obtain ⟨h1, h2⟩ := q_ct_mo (n := n) (fun k hk => h k (by omega))
    show q_ct p n + (if p n = true then 1 else 0) ≤ q_ct q n + (if q n = true then 1 else 0) ∧ ((∃ k, k < n + 1 ∧ p k = false ∧ q k = true) → q_ct p n + (if p n = true then 1 else 0) + 1 ≤ q_ct q n + (if q n = true then 1 else 0))
    have hn := h n (by omega)
    constructor
    · by_cases e : p n = true
      · rw [if_pos e, if_pos (hn e)]; omega
      · rw [if_neg e]; omega
    · rintro ⟨k, hk, e1, e2⟩
      by_cases e : k = n
      · subst e
        rw [if_neg (by rw [e1]; decide), if_pos e2]; omega
      · have := h2 ⟨k, by omega, e1, e2⟩
        by_cases e3 : p n = true
        · rw [if_pos e3, if_pos (hn e3)]; omega
        · rw [if_neg e3]; omega
/-- behind 15 steps nothing more is reached -/
theorem q_rc_16 {P : Nat → Bool} {a : Nat} (ha : a < 16) (hP : P a = true) : ∃ n, n ≤ 15 ∧ ∀ k c, c < 16 → q_rc P a (n + k) c = q_rc P a n c := by
  have key : ∀ n, (∃ m, m < n ∧ ∀ c, c < 16 → q_rc P a (m + 1) c = q_rc P a m c) ∨ n + 1 ≤ q_ct (q_rc P a n) 16 := by
    intro n
    induction n with
    | zero =>
      right
      have := (q_ct_mo (p := fun _ => false) (q := q_rc P a 0) (n := 16) (fun k _ h => by cases h)).2 ⟨a, ha, rfl, decide_eq_true rfl⟩
      omega
    | succ n ih =>
      rcases ih with ⟨m, hm, h⟩ | ih
      · exact Or.inl ⟨m, by omega, h⟩
      · by_cases e : ∃ c, c < 16 ∧ q_rc P a n c = false ∧ q_rc P a (n + 1) c = true
        · right
          have := (q_ct_mo (p := q_rc P a n) (q := q_rc P a (n + 1)) (n := 16) (fun k _ h => q_rc_m hP h)).2 e
          omega
        · left
          refine ⟨n, by omega, fun c hc => ?_⟩
          cases e1 : q_rc P a n c with
          | true => exact q_rc_m hP e1
          | false =>
            cases e2 : q_rc P a (n + 1) c with
            | false => rfl
            | true => exact absurd ⟨c, hc, e1, e2⟩ e
  rcases key 16 with ⟨m, hm, h⟩ | h
  · exact ⟨m, by omega, q_rc_st h⟩
  · have := q_ct_le (p := q_rc P a 16) 16
    omega
theorem q_rc_fix {P : Nat → Bool} {a : Nat} (ha : a < 16) (hP : P a = true) {n c : Nat} (hn : 15 ≤ n) (hc : c < 16) : q_rc P a n c = q_rc P a 16 c := by
  obtain ⟨m, hm, h⟩ := q_rc_16 ha hP
  have h1 := h (n - m) c hc
  have h2 := h (16 - m) c hc
  rw [show m + (n - m) = n by omega] at h1
  rw [show m + (16 - m) = 16 by omega] at h2
  rw [h1, h2]
