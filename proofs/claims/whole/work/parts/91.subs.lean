/-! the sets below a set, in their order -/
def q_e (T : Nat → Bool) : Nat → Nat → Nat
  | 0, _ => 0
  | n + 1, i => if T n = true then (if i < 2 ^ q_ct T n then q_e T n i else 2 ^ n + q_e T n (i - 2 ^ q_ct T n)) else q_e T n i
theorem q_ct_st {T : Nat → Bool} {n : Nat} (h : T n = true) : 2 ^ q_ct T (n + 1) = 2 ^ q_ct T n + 2 ^ q_ct T n := by
  show 2 ^ (q_ct T n + (if T n = true then 1 else 0)) = _
  rw [if_pos h, Nat.pow_succ]; omega
theorem q_ct_sf {T : Nat → Bool} {n : Nat} (h : ¬ T n = true) : q_ct T (n + 1) = q_ct T n := by
  show q_ct T n + (if T n = true then 1 else 0) = _
  rw [if_neg h, Nat.add_zero]
theorem q_e_t {T : Nat → Bool} {n i : Nat} (h : T n = true) : q_e T (n + 1) i = if i < 2 ^ q_ct T n then q_e T n i else 2 ^ n + q_e T n (i - 2 ^ q_ct T n) := by
  show (if T n = true then _ else _) = _
  rw [if_pos h]
theorem q_e_f {T : Nat → Bool} {n i : Nat} (h : ¬ T n = true) : q_e T (n + 1) i = q_e T n i := by
  show (if T n = true then _ else _) = _
  rw [if_neg h]
theorem q_e_lt {T : Nat → Bool} : ∀ n i, i < 2 ^ q_ct T n → q_e T n i < 2 ^ n
  | 0, _, _ => Nat.one_pos
  | n + 1, i, h => by
    have ep : 2 ^ (n + 1) = 2 ^ n + 2 ^ n := by rw [Nat.pow_succ]; omega
    by_cases t : T n = true
    · rw [q_ct_st t] at h
      rw [q_e_t t]
      by_cases e : i < 2 ^ q_ct T n
      · rw [if_pos e]
        have := q_e_lt n i e
        omega
      · rw [if_neg e]
        have := q_e_lt (T := T) n (i - 2 ^ q_ct T n) (by omega)
        omega
    · rw [q_ct_sf t] at h
      rw [q_e_f t]
      have := q_e_lt n i h
      omega
theorem q_tb2 {n x j : Nat} (hx : x < 2 ^ n) : (2 ^ n + x).testBit j = if j = n then true else x.testBit j := by
  by_cases e : j = n
  · subst e
    rw [if_pos rfl, Nat.testBit_two_pow_add_eq, Nat.testBit_lt_two_pow hx]; rfl
  · rw [if_neg e]
    by_cases e2 : j < n
    · rw [Nat.testBit_two_pow_add_gt e2]
    · have h1 : 2 ^ (n + 1) ≤ 2 ^ j := Nat.pow_le_pow_right (by decide) (by omega)
      have h2 : 2 ^ (n + 1) = 2 ^ n + 2 ^ n := by rw [Nat.pow_succ]; omega
      rw [Nat.testBit_lt_two_pow (show 2 ^ n + x < 2 ^ j by omega), Nat.testBit_lt_two_pow (show x < 2 ^ j by omega)]
theorem q_e_sub {T : Nat → Bool} : ∀ n i, i < 2 ^ q_ct T n → ∀ j, (q_e T n i).testBit j = true → T j = true ∧ j < n
  | 0, _, _, j, h => by
    have h : Nat.testBit 0 j = true := h
    simp at h
  | n + 1, i, h, j, hj => by
    by_cases t : T n = true
    · rw [q_ct_st t] at h
      rw [q_e_t t] at hj
      by_cases e : i < 2 ^ q_ct T n
      · rw [if_pos e] at hj
        have := q_e_sub n i e j hj
        exact ⟨this.1, by omega⟩
      · rw [if_neg e, q_tb2 (q_e_lt n _ (by omega))] at hj
        by_cases e2 : j = n
        · subst e2; exact ⟨t, by omega⟩
        · rw [if_neg e2] at hj
          have := q_e_sub n _ (by omega) j hj
          exact ⟨this.1, by omega⟩
    · rw [q_ct_sf t] at h
      rw [q_e_f t] at hj
      have := q_e_sub n i h j hj
      exact ⟨this.1, by omega⟩
theorem q_e_0 {T : Nat → Bool} : ∀ n, q_e T n 0 = 0
  | 0 => rfl
  | n + 1 => by
    by_cases t : T n = true
    · rw [q_e_t t, if_pos (Nat.pow_pos (by decide))]; exact q_e_0 n
    · rw [q_e_f t]; exact q_e_0 n
theorem q_e_last {T : Nat → Bool} : ∀ n, q_e T n (2 ^ q_ct T n - 1) = q_num T n
  | 0 => rfl
  | n + 1 => by
    have hp : 0 < 2 ^ q_ct T n := Nat.pow_pos (by decide)
    have eq : q_num T (n + 1) = 2 ^ n * (if T n = true then 1 else 0) + q_num T n := rfl
    rw [eq]
    by_cases t : T n = true
    · rw [q_ct_st t, q_e_t t, if_neg (by omega), show 2 ^ q_ct T n + 2 ^ q_ct T n - 1 - 2 ^ q_ct T n = 2 ^ q_ct T n - 1 by omega, q_e_last n, if_pos t, Nat.mul_one]
    · rw [q_ct_sf t, q_e_f t, q_e_last n, if_neg t, Nat.mul_zero, Nat.zero_add]
/-- all of T below j is in x -/
def q_cy (T : Nat → Bool) (x : Nat) : Nat → Bool
  | 0 => true
  | j + 1 => q_cy T x j && (!T j || x.testBit j)
theorem q_cy_c {T : Nat → Bool} {x y : Nat} : ∀ j, (∀ l, l < j → x.testBit l = y.testBit l) → q_cy T x j = q_cy T y j
  | 0, _ => rfl
  | j + 1, h => by
    show (q_cy T x j && (!T j || x.testBit j)) = (q_cy T y j && (!T j || y.testBit j))
    rw [q_cy_c j (fun l hl => h l (by omega)), h j (by omega)]
theorem q_cy_t {T : Nat → Bool} {x : Nat} : ∀ j, (∀ l, l < j → T l = true → x.testBit l = true) → q_cy T x j = true
  | 0, _ => rfl
  | j + 1, h => by
    show (q_cy T x j && (!T j || x.testBit j)) = true
    rw [q_cy_t j (fun l hl => h l (by omega)), Bool.true_and]
    cases e : T j with
    | false => rfl
    | true => rw [h j (by omega) e]; rfl
theorem q_cy_f {T : Nat → Bool} {x l : Nat} (hT : T l = true) (hx : x.testBit l = false) : ∀ j, l < j → q_cy T x j = false
  | 0, h => absurd h (Nat.not_lt_zero _)
  | j + 1, h => by
    show (q_cy T x j && (!T j || x.testBit j)) = false
    by_cases e : l = j
    · subst e; rw [hT, hx]; simp
    · rw [q_cy_f hT hx j (by omega)]; rfl
theorem q_cy_iff {T : Nat → Bool} {x : Nat} : ∀ j, q_cy T x j = true ↔ ∀ l, l < j → T l = true → x.testBit l = true := by
  intro j
  constructor
  · intro h l hl hT
    cases e : x.testBit l with
    | true => rfl
    | false => rw [q_cy_f hT e j hl] at h; cases h
  · exact q_cy_t j
theorem q_e_nx {T : Nat → Bool} : ∀ n i, i + 1 < 2 ^ q_ct T n → (∀ j, j < n → (q_e T n (i + 1)).testBit j = (T j && ((q_e T n i).testBit j ^^ q_cy T (q_e T n i) j))) ∧ (∃ l, l < n ∧ T l = true ∧ (q_e T n i).testBit l = false) ∧ q_e T n i < q_e T n (i + 1) ∧ ∀ k, q_e T n i < k → k < q_e T n (i + 1) → ∃ j, k.testBit j = true ∧ T j = false
  | 0, i, h => by
    have h : i + 1 < 2 ^ 0 := h
    omega
  | n + 1, i, h => by
    have ih := q_e_nx (T := T) n
    by_cases t : T n = true
    · rw [q_ct_st t] at h
      have hp : 0 < 2 ^ q_ct T n := Nat.pow_pos (by decide)
      rw [q_e_t t, q_e_t t]
      by_cases e : i + 1 < 2 ^ q_ct T n
      · -- both below
        rw [if_pos e, if_pos (show i < 2 ^ q_ct T n by omega)]
        obtain ⟨i1, ⟨l, l1, l2, l3⟩, i3, i4⟩ := ih i e
        refine ⟨fun j hj => ?_, ⟨l, by omega, l2, l3⟩, i3, i4⟩
        by_cases ej : j = n
        · subst ej
          rw [q_cy_f l2 l3 j l1, Nat.testBit_lt_two_pow (q_e_lt j (i + 1) e), Nat.testBit_lt_two_pow (q_e_lt j i (by omega))]
          simp
        · exact i1 j (by omega)
      · by_cases e2 : i < 2 ^ q_ct T n
        · -- from the last below to the first above
          have ei : i = 2 ^ q_ct T n - 1 := by omega
          rw [if_neg e, if_pos e2, show i + 1 - 2 ^ q_ct T n = 0 by omega, q_e_0, ei, q_e_last]
          have lt := q_num_lt (p := T) n
          have bit : ∀ j, (q_num T n).testBit j = (decide (j < n) && T j) := fun j => q_num_tb n j
          have full : ∀ j, j ≤ n → q_cy T (q_num T n) j = true := fun j hj => q_cy_t j (fun l hl hT => by rw [bit l, hT, decide_eq_true (by omega)]; rfl)
          refine ⟨fun j hj => ?_, ⟨n, by omega, t, by rw [bit n]; simp⟩, by omega, fun k h1 h2 => ?_⟩
          · rw [q_tb2 (by exact Nat.pow_pos (by decide)), full j (by omega), bit j]
            by_cases ej : j = n
            · subst ej; rw [if_pos rfl, t]; simp
            · rw [if_neg ej, decide_eq_true (show j < n by omega), Nat.zero_testBit]
              cases T j <;> rfl
          · -- k lies above all of T below n, and below 2 ^ n
            have hk : k < 2 ^ n := by omega
            cases hs : q_any (fun j => k.testBit j && !T j) n with
            | true =>
              obtain ⟨j, hj, h3⟩ := (q_any_iff n).mp hs
              rw [Bool.and_eq_true] at h3
              refine ⟨j, h3.1, ?_⟩
              cases e5 : T j with
              | false => rfl
              | true => rw [e5] at h3; cases h3.2
            | false =>
              exfalso
              have sub : ∀ m, m ≤ n → q_num (fun j => k.testBit j) m ≤ q_num T m := by
                intro m
                induction m with
                | zero => intro _; exact Nat.le_refl _
                | succ m im =>
                  intro hm
                  have := im (by omega)
                  show 2 ^ m * (if k.testBit m = true then 1 else 0) + q_num (fun j => k.testBit j) m ≤ 2 ^ m * (if T m = true then 1 else 0) + q_num T m
                  by_cases e6 : k.testBit m = true
                  · have : T m = true := by
                      cases e7 : T m with
                      | true => rfl
                      | false =>
                        have : q_any (fun j => k.testBit j && !T j) n = true := (q_any_iff n).mpr ⟨m, by omega, by rw [e6, e7]; rfl⟩
                        rw [hs] at this; cases this
                    rw [if_pos e6, if_pos this]; omega
                  · rw [if_neg e6]; omega
              have ek : q_num (fun j => k.testBit j) n = k := Nat.eq_of_testBit_eq (fun j => by
                rw [q_num_tb]
                by_cases z : j < n
                · rw [decide_eq_true z, Bool.true_and]
                · rw [decide_eq_false z, Bool.false_and, Nat.testBit_lt_two_pow (show k < 2 ^ j from Nat.lt_of_lt_of_le hk (Nat.pow_le_pow_right (by decide) (by omega)))])
              have := sub n (Nat.le_refl _)
              rw [ek] at this
              omega
        · -- both above
          have e3 : ¬ i + 1 < 2 ^ q_ct T n := by omega
          rw [if_neg e3, if_neg e2, show i + 1 - 2 ^ q_ct T n = (i - 2 ^ q_ct T n) + 1 by omega]
          have hi : (i - 2 ^ q_ct T n) + 1 < 2 ^ q_ct T n := by omega
          obtain ⟨i1, ⟨l, l1, l2, l3⟩, i3, i4⟩ := ih (i - 2 ^ q_ct T n) hi
          have lx := q_e_lt (T := T) n (i - 2 ^ q_ct T n) (by omega)
          have ly := q_e_lt (T := T) n (i - 2 ^ q_ct T n + 1) hi
          refine ⟨fun j hj => ?_, ⟨l, by omega, l2, by rw [q_tb2 lx, if_neg (by omega)]; exact l3⟩, by omega, fun k h1 h2 => ?_⟩
          · have cyc : q_cy T (2 ^ n + q_e T n (i - 2 ^ q_ct T n)) j = q_cy T (q_e T n (i - 2 ^ q_ct T n)) j := q_cy_c j (fun l hl => by rw [q_tb2 lx, if_neg (by omega)])
            rw [q_tb2 lx, q_tb2 ly, cyc]
            by_cases ej : j = n
            · subst ej
              rw [if_pos rfl, if_pos rfl, t, q_cy_f l2 l3 j l1]; rfl
            · rw [if_neg ej, if_neg ej]
              exact i1 j (by omega)
          · obtain ⟨k', rfl⟩ : ∃ k', k = 2 ^ n + k' := ⟨k - 2 ^ n, by omega⟩
            obtain ⟨j, j1, j2⟩ := i4 k' (by omega) (by omega)
            refine ⟨j, ?_, j2⟩
            rw [q_tb2 (by omega)]
            by_cases ej : j = n
            · rw [if_pos ej]
            · rw [if_neg ej]; exact j1
    · rw [q_ct_sf t] at h
      rw [q_e_f t, q_e_f t]
      obtain ⟨i1, ⟨l, l1, l2, l3⟩, i3, i4⟩ := ih i h
      refine ⟨fun j hj => ?_, ⟨l, by omega, l2, l3⟩, i3, i4⟩
      by_cases ej : j = n
      · subst ej
        rw [Nat.testBit_lt_two_pow (q_e_lt j (i + 1) h)]
        have : T j = false := by simpa using t
        rw [this]; rfl
      · exact i1 j (by omega)
theorem q_num_dif {p x : Nat → Bool} : ∀ n, (∀ j, j < n → x j = true → p j = true) → q_num p n = q_num x n + q_num (fun j => p j && !x j) n
  | 0, _ => rfl
  | n + 1, h => by
    have ih := q_num_dif (p := p) (x := x) n (fun j hj => h j (by omega))
    show 2 ^ n * (if p n = true then 1 else 0) + q_num p n = 2 ^ n * (if x n = true then 1 else 0) + q_num x n + (2 ^ n * (if (p n && !x n) = true then 1 else 0) + q_num (fun j => p j && !x j) n)
    rw [ih]
    have hx := h n (by omega)
    cases e1 : x n with
    | true => rw [hx e1]; simp; omega
    | false =>
      cases e2 : p n with
      | true => simp; omega
      | false => simp
theorem q_nI_set {x : Nat} (hx : x < 65536) : nI x = q_set (fun j => x.testBit j) 16 := by
  refine q_set_eq (by omega) (fun i hi => ?_)
  rw [b_nI hi]
  by_cases e : i < 16
  · simp [e]
  · rw [Nat.testBit_lt_two_pow (show x < 2 ^ i from Nat.lt_of_lt_of_le hx (show 2 ^ 16 ≤ 2 ^ i from Nat.pow_le_pow_right (by decide) (by omega)))]
    simp [e]
/-- the next set -/
theorem q_next {T : Nat → Bool} {i : Nat} (h : i + 1 < 2 ^ q_ct T 16) : (nI (q_e T 16 i) - q_set T 16) &&& q_set T 16 = nI (q_e T 16 (i + 1)) := by
  have lx := q_e_lt (T := T) 16 i (by omega)
  have ly := q_e_lt (T := T) 16 (i + 1) h
  have sx := q_e_sub (T := T) 16 i (by omega)
  obtain ⟨n1, -⟩ := q_e_nx (T := T) 16 i h
  rw [q_nI_set lx, q_nI_set ly]
  generalize q_e T 16 i = x at *
  generalize q_e T 16 (i + 1) = y at *
  have hd := q_num_dif (p := T) (x := fun j => x.testBit j) 16 (fun j _ hj => (sx j hj).1)
  have e1 : q_set (fun j => x.testBit j) 16 - q_set T 16 = -(q_set (fun j => T j && !x.testBit j) 16) := by
    have e0 : q_num T 16 - q_num (fun j => x.testBit j) 16 = q_num (fun j => T j && !x.testBit j) 16 := by omega
    rw [← Int32.neg_sub, q_set_num (by omega), q_set_num (by omega), q_set_num (by omega), pk_sub (by omega), e0]
  rw [e1]
  refine q_set_eq (by omega) (fun j hj => ?_)
  have hb : ∀ l, l < 32 → bt (q_set (fun j => T j && !x.testBit j) 16) l = (decide (l < 16) && (T l && !x.testBit l)) := fun l hl => q_set_bt 16 (by omega) l hl
  rw [b_and, b_neg hj, hb j hj, q_set_bt 16 (by omega) j hj]
  by_cases z : j < 16
  · have ed : decide (∃ l, l < j ∧ bt (q_set (fun j => T j && !x.testBit j) 16) l = true) = !q_cy T x j := by
      cases ec : q_cy T x j with
      | true =>
        have := (q_cy_iff j).mp ec
        refine decide_eq_false ?_
        rintro ⟨l, hl, h2⟩
        rw [hb l (by omega), decide_eq_true (show l < 16 by omega), Bool.true_and, Bool.and_eq_true] at h2
        rw [this l hl h2.1] at h2
        cases h2.2
      | false =>
        refine decide_eq_true ?_
        have : ¬ ∀ l, l < j → T l = true → x.testBit l = true := fun q => by
          rw [(q_cy_iff j).mpr q] at ec; cases ec
        cases hs : q_any (fun l => T l && !x.testBit l) j with
        | true =>
          obtain ⟨l, hl, h3⟩ := (q_any_iff j).mp hs
          exact ⟨l, hl, by rw [hb l (by omega), decide_eq_true (show l < 16 by omega), Bool.true_and]; exact h3⟩
        | false =>
          exfalso
          refine this (fun l hl hT => ?_)
          cases e5 : x.testBit l with
          | true => rfl
          | false =>
            have : q_any (fun l => T l && !x.testBit l) j = true := (q_any_iff j).mpr ⟨l, hl, by rw [hT, e5]; rfl⟩
            rw [hs] at this; cases this
    rw [ed, n1 j z, decide_eq_true z]
    cases T j <;> cases x.testBit j <;> cases q_cy T x j <;> rfl
  · rw [decide_eq_false z]; simp
