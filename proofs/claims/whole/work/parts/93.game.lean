/-! the game: sets that may be dried -/
theorem q_nor {x y : Nat} : nI x ||| nI y = nI (x ||| y) := b_ext (fun i hi => by rw [b_or, b_nI hi, b_nI hi, b_nI hi, Nat.testBit_or])
theorem q_nand {x y : Nat} : nI x &&& nI y = nI (x &&& y) := b_ext (fun i hi => by rw [b_and, b_nI hi, b_nI hi, b_nI hi, Nat.testBit_and])
theorem q_nxor {x y : Nat} : nI x ^^^ nI y = nI (x ^^^ y) := b_ext (fun i hi => by rw [b_xor, b_nI hi, b_nI hi, b_nI hi, Nat.testBit_xor])
theorem q_sbs {s x : Nat} : s &&& x = x ↔ ∀ i, x.testBit i = true → s.testBit i = true := by
  constructor
  · intro h i hi
    rw [← h, Nat.testBit_and, Bool.and_eq_true] at hi
    exact hi.1
  · intro h
    refine Nat.eq_of_testBit_eq (fun i => ?_)
    rw [Nat.testBit_and]
    cases e : x.testBit i with
    | false => rw [Bool.and_false]
    | true => rw [h i e]; rfl
theorem q_ndif {s x : Nat} (h : s &&& x = x) : nI s &&& (nI x ^^^ -1) = nI (s ^^^ x) := b_ext (fun i hi => by
  rw [b_and, b_not hi, b_nI hi, b_nI hi, b_nI hi, Nat.testBit_xor]
  cases e : x.testBit i with
  | false => simp
  | true => rw [q_sbs.mp h i e]; rfl)
theorem q_nsub {s x : Nat} (hs : s < 65536) (hx : x < 65536) : nI x &&& (nI s ^^^ -1) = 0 ↔ s &&& x = x := by
  rw [q_nI_set hx, q_nI_set hs, q_set_dif, q_set_0, q_sbs]
  constructor
  · intro h i hi
    by_cases z : i < 16
    · have := h i z
      rw [hi] at this
      cases e : s.testBit i with
      | true => rfl
      | false => rw [e] at this; cases this
    · rw [Nat.testBit_lt_two_pow (show x < 2 ^ i from Nat.lt_of_lt_of_le (show x < 2 ^ 16 by omega) (Nat.pow_le_pow_right (by decide) (by omega)))] at hi
      cases hi
  · intro h i hi
    cases e : x.testBit i with
    | false => rfl
    | true => rw [h i e]; rfl
/-- the rank of a cell -/
theorem q_ct_m {P : Nat → Bool} {a : Nat} : ∀ m, q_ct P a ≤ q_ct P (a + m)
  | 0 => Nat.le_refl _
  | m + 1 => Nat.le_trans (q_ct_m m) (Nat.le_add_right _ _)
theorem q_ct_lt {P : Nat → Bool} {a b : Nat} (h : a < b) (hP : P a = true) : q_ct P a < q_ct P b := by
  have e : q_ct P (a + 1) = q_ct P a + (if P a = true then 1 else 0) := rfl
  rw [if_pos hP] at e
  have := q_ct_m (P := P) (a := a + 1) (b - (a + 1))
  rw [show a + 1 + (b - (a + 1)) = b by omega] at this
  omega
theorem q_ct_in {P : Nat → Bool} {a b : Nat} (ha : P a = true) (hb : P b = true) (h : q_ct P a = q_ct P b) : a = b := by
  rcases Nat.lt_trichotomy a b with z | z | z
  · have := q_ct_lt z ha; omega
  · exact z
  · have := q_ct_lt z hb; omega
theorem q_ct_on {P : Nat → Bool} : ∀ N p, p < q_ct P N → ∃ c, c < N ∧ P c = true ∧ q_ct P c = p
  | 0, p, h => absurd h (Nat.not_lt_zero _)
  | N + 1, p, h => by
    by_cases z : p < q_ct P N
    · obtain ⟨c, c1, c2, c3⟩ := q_ct_on N p z
      exact ⟨c, by omega, c2, c3⟩
    · have e : q_ct P (N + 1) = q_ct P N + (if P N = true then 1 else 0) := rfl
      by_cases g : P N = true
      · rw [if_pos g] at e
        exact ⟨N, by omega, g, by omega⟩
      · rw [if_neg g] at e
        omega
/-- the sets of ranks that may be dried, and those of them found so far -/
def q_pr (P : Nat → Bool) (a b x : Nat) : Prop := a < 16 ∧ b < 16 ∧ P a = true ∧ P b = true ∧ (a = b ∨ q_adj a b = true) ∧ x = 2 ^ q_ct P a ||| 2 ^ q_ct P b
def q_mv (P : Nat → Bool) (x : Nat) : Prop := ∃ a b, q_pr P a b x
def q_mvC (P : Nat → Bool) (a b x : Nat) : Prop := ∃ a' b', q_pr P a' b' x ∧ a' ≤ b' ∧ (a' < a ∨ (a' = a ∧ b' < b))
def q_mvR (P : Nat → Bool) (p q x : Nat) : Prop := ∃ a' b', q_pr P a' b' x ∧ q_ct P a' ≤ q_ct P b' ∧ (q_ct P a' < p ∨ (q_ct P a' = p ∧ q_ct P b' < q))
theorem q_pr_sy {P : Nat → Bool} {a b x : Nat} (h : q_pr P a b x) : q_pr P b a x := by
  obtain ⟨h1, h2, h3, h4, h5, h6⟩ := h
  refine ⟨h2, h1, h4, h3, ?_, by rw [h6, Nat.or_comm]⟩
  rcases h5 with e | e
  · exact .inl e.symm
  · exact .inr (by rw [q_adj_sy b h2 a h1]; exact e)
theorem q_mvC_end {P : Nat → Bool} {x : Nat} : q_mvC P 16 16 x ↔ q_mv P x := by
  constructor
  · rintro ⟨a, b, h, -, -⟩; exact ⟨a, b, h⟩
  · rintro ⟨a, b, h⟩
    by_cases z : a ≤ b
    · exact ⟨a, b, h, z, .inl h.1⟩
    · exact ⟨b, a, q_pr_sy h, by omega, .inl h.2.1⟩
theorem q_mvR_end {P : Nat → Bool} {x : Nat} : q_mvR P (q_ct P 16) (q_ct P 16) x ↔ q_mv P x := by
  constructor
  · rintro ⟨a, b, h, -, -⟩; exact ⟨a, b, h⟩
  · rintro ⟨a, b, h⟩
    by_cases z : q_ct P a ≤ q_ct P b
    · exact ⟨a, b, h, z, .inl (q_ct_lt h.1 h.2.2.1)⟩
    · exact ⟨b, a, q_pr_sy h, by omega, .inl (q_ct_lt h.2.1 h.2.2.2.1)⟩
theorem q_mvC_0 {P : Nat → Bool} {x : Nat} : ¬ q_mvC P 0 0 x := by
  rintro ⟨a, b, -, -, h⟩; omega
theorem q_mvR_0 {P : Nat → Bool} {x : Nat} : ¬ q_mvR P 0 0 x := by
  rintro ⟨a, b, -, -, h⟩; omega
theorem q_mvC_n {P : Nat → Bool} {a x : Nat} (h : ¬ P a = true) : q_mvC P (a + 1) (a + 1) x ↔ q_mvC P a a x := by
  constructor
  · rintro ⟨c, e, g, l, z⟩
    refine ⟨c, e, g, l, ?_⟩
    by_cases y : c = a
    · subst y; exact absurd g.2.2.1 h
    · omega
  · rintro ⟨c, e, g, l, z⟩
    exact ⟨c, e, g, l, by omega⟩
theorem q_mvC_y {P : Nat → Bool} {a x : Nat} (ha : a < 16) (h : P a = true) : q_mvC P a (a + 1) x ↔ (q_mvC P a a x ∨ x = 2 ^ q_ct P a) := by
  constructor
  · rintro ⟨c, e, g, l, z⟩
    by_cases y : c = a ∧ e = a
    · obtain ⟨rfl, rfl⟩ := y
      exact .inr (by rw [g.2.2.2.2.2, Nat.or_self])
    · exact .inl ⟨c, e, g, l, by omega⟩
  · rintro (⟨c, e, g, l, z⟩ | rfl)
    · exact ⟨c, e, g, l, by omega⟩
    · exact ⟨a, a, ⟨ha, ha, h, h, .inl rfl, (Nat.or_self _).symm⟩, Nat.le_refl _, .inr ⟨rfl, by omega⟩⟩
theorem q_mvC_in {P : Nat → Bool} {a b x : Nat} (hab : a < b) (h : ¬ (P b && q_adj a b) = true) : q_mvC P a (b + 1) x ↔ q_mvC P a b x := by
  constructor
  · rintro ⟨c, e, g, l, z⟩
    refine ⟨c, e, g, l, ?_⟩
    by_cases y : c = a ∧ e = b
    · obtain ⟨rfl, rfl⟩ := y
      exfalso; apply h
      rw [g.2.2.2.1]
      rcases g.2.2.2.2.1 with w | w
      · omega
      · rw [w]; rfl
    · omega
  · rintro ⟨c, e, g, l, z⟩
    exact ⟨c, e, g, l, by omega⟩
theorem q_mvC_iy {P : Nat → Bool} {a b x : Nat} (hab : a < b) (hb : b < 16) (ha : P a = true) (h : (P b && q_adj a b) = true) : q_mvC P a (b + 1) x ↔ (q_mvC P a b x ∨ x = 2 ^ q_ct P a ||| 2 ^ q_ct P b) := by
  rw [Bool.and_eq_true] at h
  constructor
  · rintro ⟨c, e, g, l, z⟩
    by_cases y : c = a ∧ e = b
    · obtain ⟨rfl, rfl⟩ := y
      exact .inr g.2.2.2.2.2
    · exact .inl ⟨c, e, g, l, by omega⟩
  · rintro (⟨c, e, g, l, z⟩ | rfl)
    · exact ⟨c, e, g, l, by omega⟩
    · exact ⟨a, b, ⟨by omega, hb, ha, h.1, .inr h.2, rfl⟩, by omega, .inr ⟨rfl, by omega⟩⟩
theorem q_mvC_nx {P : Nat → Bool} {a x : Nat} : q_mvC P a 16 x ↔ q_mvC P (a + 1) (a + 1) x := by
  constructor
  · rintro ⟨c, e, g, l, z⟩
    exact ⟨c, e, g, l, by omega⟩
  · rintro ⟨c, e, g, l, z⟩
    have := g.2.1
    exact ⟨c, e, g, l, by omega⟩
theorem q_mvR_nx {P : Nat → Bool} {p x : Nat} : q_mvR P p (q_ct P 16) x ↔ q_mvR P (p + 1) (p + 1) x := by
  constructor
  · rintro ⟨c, e, g, l, z⟩
    exact ⟨c, e, g, l, by omega⟩
  · rintro ⟨c, e, g, l, z⟩
    have := q_ct_lt g.2.1 g.2.2.2.1
    exact ⟨c, e, g, l, by omega⟩
theorem q_mvR_in {P : Nat → Bool} {a b x : Nat} (Pa : P a = true) (Pb : P b = true) (h : ¬ (a = b ∨ q_adj a b = true)) : q_mvR P (q_ct P a) (q_ct P b + 1) x ↔ q_mvR P (q_ct P a) (q_ct P b) x := by
  constructor
  · rintro ⟨c, e, g, l, z⟩
    refine ⟨c, e, g, l, ?_⟩
    by_cases y : q_ct P c = q_ct P a ∧ q_ct P e = q_ct P b
    · have y1 := q_ct_in g.2.2.1 Pa y.1
      have y2 := q_ct_in g.2.2.2.1 Pb y.2
      subst y1; subst y2
      exact absurd g.2.2.2.2.1 h
    · omega
  · rintro ⟨c, e, g, l, z⟩
    exact ⟨c, e, g, l, by omega⟩
theorem q_mvR_iy {P : Nat → Bool} {a b x : Nat} (ha : a < 16) (hb : b < 16) (Pa : P a = true) (Pb : P b = true) (hab : q_ct P a ≤ q_ct P b) (h : a = b ∨ q_adj a b = true) : q_mvR P (q_ct P a) (q_ct P b + 1) x ↔ (q_mvR P (q_ct P a) (q_ct P b) x ∨ x = 2 ^ q_ct P a ||| 2 ^ q_ct P b) := by
  constructor
  · rintro ⟨c, e, g, l, z⟩
    by_cases y : q_ct P c = q_ct P a ∧ q_ct P e = q_ct P b
    · have y1 := q_ct_in g.2.2.1 Pa y.1
      have y2 := q_ct_in g.2.2.2.1 Pb y.2
      subst y1; subst y2
      exact .inr g.2.2.2.2.2
    · exact .inl ⟨c, e, g, l, by omega⟩
  · rintro (⟨c, e, g, l, z⟩ | rfl)
    · exact ⟨c, e, g, l, by omega⟩
    · exact ⟨a, b, ⟨ha, hb, Pa, Pb, h, rfl⟩, hab, .inr ⟨rfl, by omega⟩⟩
theorem q_pw_lt {P : Nat → Bool} (h10 : q_ct P 16 ≤ 10) {a : Nat} (ha : a < 16) (hP : P a = true) : 2 ^ q_ct P a < 1024 ∧ q_ct P a < 10 := by
  have := q_ct_lt ha hP
  have h2 : 2 ^ q_ct P a ≤ 2 ^ 9 := Nat.pow_le_pow_right (by decide) (by omega)
  exact ⟨by omega, by omega⟩
theorem q_mv_at {P : Nat → Bool} (h10 : q_ct P 16 ≤ 10) {x : Nat} (h : q_mv P x) : x ≠ 0 ∧ x < 1024 := by
  obtain ⟨a, b, h1, h2, h3, h4, h5, rfl⟩ := h
  have a1 := (q_pw_lt h10 h1 h3).1
  have b1 := (q_pw_lt h10 h2 h4).1
  refine ⟨fun z => ?_, Nat.or_lt_two_pow (n := 10) (by omega) (by omega)⟩
  have t : (2 ^ q_ct P a ||| 2 ^ q_ct P b).testBit (q_ct P a) = true := by
    rw [Nat.testBit_or, Nat.testBit_two_pow_self]; rfl
  rw [z, Nat.zero_testBit] at t; cases t
theorem q_num_self {x n : Nat} (h : x < 2 ^ n) : q_num (fun j => x.testBit j) n = x := Nat.eq_of_testBit_eq (fun i => by
  rw [q_num_tb]
  by_cases z : i < n
  · rw [decide_eq_true z, Bool.true_and]
  · rw [decide_eq_false z, Nat.testBit_lt_two_pow (Nat.lt_of_lt_of_le h (Nat.pow_le_pow_right (by decide) (by omega)))]; rfl)
theorem q_xor_lt {s x : Nat} (h0 : x ≠ 0) (hs : s &&& x = x) : s ^^^ x < s := by
  have hs' : s < 2 ^ (s + x) := Nat.lt_of_lt_of_le Nat.lt_two_pow_self (Nat.pow_le_pow_right (by decide) (by omega))
  have hx' : x < 2 ^ (s + x) := Nat.lt_of_lt_of_le Nat.lt_two_pow_self (Nat.pow_le_pow_right (by decide) (by omega))
  have e := q_num_dif (p := fun j => s.testBit j) (x := fun j => x.testBit j) (s + x) (fun j _ h => q_sbs.mp hs j h)
  rw [q_num_self hs', q_num_self hx'] at e
  have e2 : q_num (fun j => s.testBit j && !x.testBit j) (s + x) = s ^^^ x := Nat.eq_of_testBit_eq (fun i => by
    rw [q_num_tb, Nat.testBit_xor]
    by_cases z : i < s + x
    · rw [decide_eq_true z, Bool.true_and]
      cases y : x.testBit i with
      | false => simp
      | true => rw [q_sbs.mp hs i y]; rfl
    · have y1 : s.testBit i = false := Nat.testBit_lt_two_pow (Nat.lt_of_lt_of_le hs' (Nat.pow_le_pow_right (by decide) (by omega)))
      have y2 : x.testBit i = false := Nat.testBit_lt_two_pow (Nat.lt_of_lt_of_le hx' (Nat.pow_le_pow_right (by decide) (by omega)))
      rw [decide_eq_false z, y1, y2]; rfl)
  rw [e2] at e
  omega
theorem q_mv_nz {P : Nat → Bool} {x : Nat} (h : q_mv P x) : x ≠ 0 := by
  obtain ⟨a, b, h1, h2, h3, h4, h5, rfl⟩ := h
  intro z
  have t : (2 ^ q_ct P a ||| 2 ^ q_ct P b).testBit (q_ct P a) = true := by
    rw [Nat.testBit_or, Nat.testBit_two_pow_self]; rfl
  rw [z, Nat.zero_testBit] at t; cases t
theorem q_mv_lt {P : Nat → Bool} {s x : Nat} (h : q_mv P x) (hs : s &&& x = x) : s ^^^ x < s := q_xor_lt (q_mv_nz h) hs
/-- the least of a set, 0 where there is none -/
def q_lw (S : Nat → Prop) (v : Nat) : Prop := (v = 0 ∧ ∀ x, ¬ S x) ∨ (v ≠ 0 ∧ S v ∧ ∀ x, S x → v ≤ x)
theorem q_lw_no {S T : Nat → Prop} {v : Nat} (h : q_lw S v) (e : ∀ x, T x ↔ S x) : q_lw T v := by
  rcases h with ⟨h1, h2⟩ | ⟨h1, h2, h3⟩
  · exact .inl ⟨h1, fun x hx => h2 x ((e x).mp hx)⟩
  · exact .inr ⟨h1, (e v).mpr h2, fun x hx => h3 x ((e x).mp hx)⟩
theorem q_lw_y {S T : Nat → Prop} {v w : Nat} (h : q_lw S v) (hw : w ≠ 0) (hv : v = 0 ∨ w < v) (e : ∀ x, T x ↔ (S x ∨ x = w)) : q_lw T w := by
  refine .inr ⟨hw, (e w).mpr (.inr rfl), fun x hx => ?_⟩
  rcases (e x).mp hx with g | g
  · rcases h with ⟨h1, h2⟩ | ⟨h1, h2, h3⟩
    · exact absurd g (h2 x)
    · have := h3 x g; omega
  · omega
theorem q_lw_k {S T : Nat → Prop} {v w : Nat} (h : q_lw S v) (hv : v ≠ 0) (hw : v ≤ w) (e : ∀ x, T x ↔ (S x ∨ x = w)) : q_lw T v := by
  rcases h with ⟨h1, h2⟩ | ⟨h1, h2, h3⟩
  · exact absurd h1 hv
  · refine .inr ⟨h1, (e v).mpr (.inl h2), fun x hx => ?_⟩
    rcases (e x).mp hx with g | g
    · exact h3 x g
    · omega
theorem q_lw_u {S : Nat → Prop} {v w : Nat} (h : q_lw S v) (g : q_lw S w) : v = w := by
  rcases h with ⟨h1, h2⟩ | ⟨h1, h2, h3⟩ <;> rcases g with ⟨g1, g2⟩ | ⟨g1, g2, g3⟩
  · omega
  · exact absurd g2 (h2 w)
  · exact absurd h2 (g2 v)
  · have := h3 w g2; have := g3 v h2; omega
/-- what a winning drying of s is, when f says how the smaller sets are won -/
def q_gd (f : Nat → Nat) (s x : Nat) : Prop := s &&& x = x ∧ f (s ^^^ x) = 0
def q_wn (P : Nat → Bool) (f : Nat → Nat) (s : Nat) : Prop := q_lw (fun x => q_mv P x ∧ q_gd f s x) (f s)
theorem q_wn_up {P : Nat → Bool} {f g : Nat → Nat} {s : Nat} (h : q_wn P f s) (e : ∀ t, t ≤ s → g t = f t) : q_wn P g s := by
  unfold q_wn at h ⊢
  rw [e s (Nat.le_refl _)]
  refine q_lw_no h (fun x => ?_)
  unfold q_gd
  constructor
  · rintro ⟨a, b, c⟩
    exact ⟨a, b, by rw [← e _ (Nat.le_of_lt (q_mv_lt a b))]; exact c⟩
  · rintro ⟨a, b, c⟩
    exact ⟨a, b, by rw [e _ (Nat.le_of_lt (q_mv_lt a b))]; exact c⟩
/-- a row of numbers is a set -/
def q_Ms (μ : gM) (t : Nat) (S : Nat → Prop) : Prop := μ 80 1 = nI t ∧ (∀ i, i < t → ∃ x, S x ∧ μ 81 i = nI x) ∧ ∀ x, S x → ∃ i, i < t ∧ μ 81 i = nI x
theorem q_Ms_no {μ : gM} {t : Nat} {S T : Nat → Prop} (h : q_Ms μ t S) (e : ∀ x, T x ↔ S x) : q_Ms μ t T :=
  ⟨h.1, fun i hi => by obtain ⟨x, x1, x2⟩ := h.2.1 i hi; exact ⟨x, (e x).mpr x1, x2⟩, fun x hx => h.2.2 x ((e x).mp hx)⟩
theorem q_Ms_y {μ : gM} {t w : Nat} {S T : Nat → Prop} (h : q_Ms μ t S) (e : ∀ x, T x ↔ (S x ∨ x = w)) : q_Ms (gc_up (gc_up μ 81 t (nI w)) 80 1 (nI (t + 1))) (t + 1) T := by
  have e1 : ∀ i, i ≠ t → gc_up (gc_up μ 81 t (nI w)) 80 1 (nI (t + 1)) 81 i = μ 81 i := fun i hi => by rw [q_up_o (by omega), q_up_j hi]
  have e2 : gc_up (gc_up μ 81 t (nI w)) 80 1 (nI (t + 1)) 81 t = nI w := by rw [q_up_o (by omega), q_up_same]
  refine ⟨q_up_same, fun i hi => ?_, fun x hx => ?_⟩
  · by_cases z : i = t
    · subst z; exact ⟨w, (e w).mpr (.inr rfl), e2⟩
    · obtain ⟨x, x1, x2⟩ := h.2.1 i (by omega)
      exact ⟨x, (e x).mpr (.inl x1), by rw [e1 i z]; exact x2⟩
  · rcases (e x).mp hx with g | g
    · obtain ⟨i, i1, i2⟩ := h.2.2 x g
      exact ⟨i, by omega, by rw [e1 i (by omega)]; exact i2⟩
    · subst g; exact ⟨t, by omega, e2⟩
