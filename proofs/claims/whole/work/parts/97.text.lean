/-! texts that are read: the reading as a function -/
def q_nm (u : Nat) (z : Int32) : Int32 := if z = 119 then 0 else if z = (if u = 0 then 115 else 110) then 1 else if z = 121 then 2 else -1
def q_rd (A : Nat → Int32) : Nat → Nat → Nat → Nat × Nat
  | 0, pos, v => (pos, v)
  | k + 1, pos, v => if 48 ≤ A pos ∧ A pos ≤ 57 then q_rd A k (pos + 1) (v * 10 + ((A pos).toNatClampNeg - 48)) else (pos, v)
def q_bd (r : Bool × Nat × Nat × (Nat → Int32)) (k : Nat → Nat → (Nat → Int32) → Bool × Nat × Nat × (Nat → Int32)) : Bool × Nat × Nat × (Nat → Int32) := if r.1 = true then k r.2.1 r.2.2.1 r.2.2.2 else r
def q_bse (A : Nat → Int32) (u : Nat) (pos n : Nat) (C : Nat → Int32) : Bool × Nat × Nat × (Nat → Int32) :=
  if 48 ≤ A pos ∧ A pos ≤ 57 then (true, (q_rd A 4 pos 0).1, n + 1, upd C n (nI (q_rd A 4 pos 0).2))
  else if q_nm u (A pos) < 0 then (false, pos, n, C) else (true, pos + 1, n + 1, upd C n (10000 + q_nm u (A pos)))
def q_lop (A : Nat → Int32) (s : Int32 → Bool) (p : Nat → Nat → (Nat → Int32) → Bool × Nat × Nat × (Nat → Int32)) : Nat → Nat → Nat → (Nat → Int32) → Bool × Nat × Nat × (Nat → Int32)
  | 0, pos, n, C => (true, pos, n, C)
  | f + 1, pos, n, C => if s (A pos) = true then q_bd (p (pos + 1) n C) (fun p1 n1 C1 => q_lop A s p f p1 (n1 + 1) (upd C1 n1 (20000 + A pos))) else (true, pos, n, C)
def q_lvl (A : Nat → Int32) (t : Nat) (s : Int32 → Bool) (p : Nat → Nat → (Nat → Int32) → Bool × Nat × Nat × (Nat → Int32)) (pos n : Nat) (C : Nat → Int32) : Bool × Nat × Nat × (Nat → Int32) := q_bd (p pos n C) (q_lop A s p t)
def q_s0 (z : Int32) : Bool := decide (z = 42) || decide (z = 47) || decide (z = 37)
def q_s1 (z : Int32) : Bool := decide (z = 43) || decide (z = 45)
def q_s2 (z : Int32) : Bool := decide (z = 60) || decide (z = 61) || decide (z = 62)
def q_s3 (z : Int32) : Bool := decide (z = 38)
def q_s4 (z : Int32) : Bool := decide (z = 124)
def q_cmd (A : Nat → Int32) (p : Nat → Nat → (Nat → Int32) → Bool × Nat × Nat × (Nat → Int32)) (pos n : Nat) (C : Nat → Int32) : Bool × Nat × Nat × (Nat → Int32) := q_bd (p pos n C) (fun p1 n1 C1 => if q_s2 (A p1) = true then q_bd (p (p1 + 1) n1 C1) (fun p2 n2 C2 => (true, p2, n2 + 1, upd C2 n2 (20000 + A p1))) else (true, p1, n1, C1))
def q_txt (A : Nat → Int32) (t : Nat) (p : Nat → Nat → (Nat → Int32) → Bool × Nat × Nat × (Nat → Int32)) : Nat → Nat → (Nat → Int32) → Bool × Nat × Nat × (Nat → Int32) := q_lvl A t q_s4 (q_lvl A t q_s3 (q_cmd A (q_lvl A t q_s1 (q_lvl A t q_s0 p))))
def q_lst (A : Nat → Int32) (t u : Nat) : Nat → Nat → Nat → (Nat → Int32) → Bool × Nat × Nat × (Nat → Int32)
  | 0 => q_bse A u
  | k + 1 => fun pos n C => if A pos = 33 then q_bd (q_lst A t u k (pos + 1) n C) (fun p1 n1 C1 => (true, p1, n1 + 1, upd C1 n1 20033)) else if A pos = 40 then q_bd (q_txt A t (q_lst A t u k) (pos + 1) n C) (fun p1 n1 C1 => if A p1 = 41 then (true, p1 + 1, n1, C1) else (false, p1, n1, C1)) else q_bse A u pos n C
/-- what is ahead: bytes up to t, -1 behind -/
def q_by8s (A : Nat → Int32) (t : Nat) : Prop := (∀ i, i < t → ∃ b, b < 256 ∧ A i = nI b) ∧ ∀ i, t ≤ i → A i = -1
def q_sgn (s : Int32 → Bool) : Prop := ∀ z, s z = true → z ≠ -1 ∧ q_enc (20000 + z) = -z ∧ ¬ (20000 + z < 20000) ∧ 20000 + z ≠ 20033 ∧ ∀ t, 2 ≤ t → q_tk (20000 + z) t
theorem q_sgn0 : q_sgn q_s0 := by
  intro z h
  unfold q_s0 at h
  rw [Bool.or_eq_true, Bool.or_eq_true, decide_eq_true_eq, decide_eq_true_eq, decide_eq_true_eq] at h
  rcases h with (rfl | rfl) | rfl
  · exact ⟨by decide, by decide, by decide, by decide, fun t ht => .inr (.inr ⟨by decide, ht⟩)⟩
  · exact ⟨by decide, by decide, by decide, by decide, fun t ht => .inr (.inr ⟨by decide, ht⟩)⟩
  · exact ⟨by decide, by decide, by decide, by decide, fun t ht => .inr (.inr ⟨by decide, ht⟩)⟩
theorem q_sgn1 : q_sgn q_s1 := by
  intro z h
  unfold q_s1 at h
  rw [Bool.or_eq_true, decide_eq_true_eq, decide_eq_true_eq] at h
  rcases h with rfl | rfl
  · exact ⟨by decide, by decide, by decide, by decide, fun t ht => .inr (.inr ⟨by decide, ht⟩)⟩
  · exact ⟨by decide, by decide, by decide, by decide, fun t ht => .inr (.inr ⟨by decide, ht⟩)⟩
theorem q_sgn2 : q_sgn q_s2 := by
  intro z h
  unfold q_s2 at h
  rw [Bool.or_eq_true, Bool.or_eq_true, decide_eq_true_eq, decide_eq_true_eq, decide_eq_true_eq] at h
  rcases h with (rfl | rfl) | rfl
  · exact ⟨by decide, by decide, by decide, by decide, fun t ht => .inr (.inr ⟨by decide, ht⟩)⟩
  · exact ⟨by decide, by decide, by decide, by decide, fun t ht => .inr (.inr ⟨by decide, ht⟩)⟩
  · exact ⟨by decide, by decide, by decide, by decide, fun t ht => .inr (.inr ⟨by decide, ht⟩)⟩
theorem q_sgn3 : q_sgn q_s3 := by
  intro z h
  unfold q_s3 at h
  rw [decide_eq_true_eq] at h
  subst h
  exact ⟨by decide, by decide, by decide, by decide, fun t ht => .inr (.inr ⟨by decide, ht⟩)⟩
theorem q_sgn4 : q_sgn q_s4 := by
  intro z h
  unfold q_s4 at h
  rw [decide_eq_true_eq] at h
  subst h
  exact ⟨by decide, by decide, by decide, by decide, fun t ht => .inr (.inr ⟨by decide, ht⟩)⟩
theorem q_dp_s {C : Nat → Int32} {n : Nat} : q_dp C (n + 1) = if C n < 20000 then q_dp C n + 1 else if C n = 20033 then q_dp C n else q_dp C n - 1 := rfl
theorem q_dp_ag {C C' : Nat → Int32} : ∀ n, (∀ j, j < n → C' j = C j) → q_dp C' n = q_dp C n
  | 0, _ => rfl
  | n + 1, h => by
    rw [q_dp_s, q_dp_s, h n (by omega), q_dp_ag n (fun j hj => h j (by omega))]
/-- a reading from (pos, n, C) has gone well so far -/
def q_g1 (t pos n : Nat) (C : Nat → Int32) (r : Bool × Nat × Nat × (Nat → Int32)) : Prop := pos ≤ r.2.1 ∧ r.2.1 ≤ t ∧ (r.1 = true → pos < r.2.1 ∧ n ≤ r.2.2.1 ∧ r.2.2.1 + pos ≤ r.2.1 + n ∧ (∀ j, j < n → r.2.2.2 j = C j) ∧ q_dp r.2.2.2 r.2.2.1 = q_dp C n + 1 ∧ ∀ j, n ≤ j → j < r.2.2.1 → q_tk (r.2.2.2 j) (q_dp r.2.2.2 j))
def q_G (t : Nat) (p : Nat → Nat → (Nat → Int32) → Bool × Nat × Nat × (Nat → Int32)) : Prop := ∀ pos n C, n ≤ pos → pos ≤ t → q_g1 t pos n C (p pos n C)
theorem q_in_t {A : Nat → Int32} {t p : Nat} (hA : q_by8s A t) (h : A p ≠ -1) : p < t := by
  by_cases z : p < t
  · exact z
  · exact absurd (hA.2 p (by omega)) h
theorem q_bd_t {r : Bool × Nat × Nat × (Nat → Int32)} {k : Nat → Nat → (Nat → Int32) → Bool × Nat × Nat × (Nat → Int32)} (h : r.1 = true) : q_bd r k = k r.2.1 r.2.2.1 r.2.2.2 := if_pos h
theorem q_bd_f {r : Bool × Nat × Nat × (Nat → Int32)} {k : Nat → Nat → (Nat → Int32) → Bool × Nat × Nat × (Nat → Int32)} (h : ¬ r.1 = true) : q_bd r k = r := if_neg h
/-- two that are joined by a sign -/
theorem q_g2 {t pos n p1 n1 p2 n2 : Nat} {C C1 C2 : Nat → Int32} {z : Int32} (h1 : q_g1 t pos n C (true, p1, n1, C1)) (h2 : q_g1 t (p1 + 1) n1 C1 (true, p2, n2, C2)) (hz : ¬ (z < 20000) ∧ z ≠ 20033 ∧ ∀ t, 2 ≤ t → q_tk z t) : q_g1 t pos n C (true, p2, n2 + 1, upd C2 n2 z) := by
  obtain ⟨a1, a2, a3⟩ := h1
  obtain ⟨b1, b2, b3⟩ := h2
  obtain ⟨a4, a5, a6, a7, a8, a9⟩ := a3 rfl
  obtain ⟨b4, b5, b6, b7, b8, b9⟩ := b3 rfl
  simp only at a1 a2 a4 a5 a6 a7 a8 a9 b1 b2 b4 b5 b6 b7 b8 b9
  have ag : ∀ j, j ≤ n2 → q_dp (upd C2 n2 z) j = q_dp C2 j := fun j hj => q_dp_ag j (fun i hi => if_neg (by omega))
  have ag1 : ∀ j, j ≤ n1 → q_dp C2 j = q_dp C1 j := fun j hj => q_dp_ag j (fun i hi => b7 i (by omega))
  have en : upd C2 n2 z n2 = z := if_pos rfl
  have eo : ∀ j, j ≠ n2 → upd C2 n2 z j = C2 j := fun j hj => if_neg hj
  have d2 : q_dp (upd C2 n2 z) (n2 + 1) = q_dp C n + 1 := by
    rw [q_dp_s, en, if_neg hz.1, if_neg hz.2.1, ag n2 (Nat.le_refl _), b8, a8]; omega
  refine ⟨by simp only; omega, b2, fun _ => ⟨by simp only; omega, by simp only; omega, by simp only; omega, fun j hj => ?_, d2, fun j hj hj2 => ?_⟩⟩
  · show upd C2 n2 z j = C j
    rw [eo j (by omega), b7 j (by omega), a7 j hj]
  · show q_tk (upd C2 n2 z j) (q_dp (upd C2 n2 z) j)
    have hj2 : j < n2 + 1 := hj2
    by_cases e : j = n2
    · subst e
      rw [en, ag j (Nat.le_refl _), b8, a8]
      exact hz.2.2 _ (by omega)
    · rw [eo j e, ag j (by omega)]
      by_cases e2 : j < n1
      · rw [b7 j e2, ag1 j (by omega)]; exact a9 j hj e2
      · exact b9 j (by omega) (by omega)
theorem q_g_bad {t pos n p1 p2 n1 : Nat} {C C1 : Nat → Int32} {r : Bool × Nat × Nat × (Nat → Int32)} (h : pos ≤ p1) (h2 : q_g1 t p1 n1 C1 r) (hr : ¬ r.1 = true) : q_g1 t pos n C r := ⟨Nat.le_trans h h2.1, h2.2.1, fun z => absurd z hr⟩
theorem q_G_lop {A : Nat → Int32} {t : Nat} {s : Int32 → Bool} {p : Nat → Nat → (Nat → Int32) → Bool × Nat × Nat × (Nat → Int32)} (hA : q_by8s A t) (hs : q_sgn s) (hp : q_G t p) {pos n : Nat} {C : Nat → Int32} (hn : n ≤ pos) : ∀ f p1 n1 C1, q_g1 t pos n C (true, p1, n1, C1) → q_g1 t pos n C (q_lop A s p f p1 n1 C1)
  | 0, p1, n1, C1, h => h
  | f + 1, p1, n1, C1, h => by
    unfold q_lop
    by_cases g : s (A p1) = true
    · rw [if_pos g]
      obtain ⟨s1, s2, s3⟩ := hs _ g
      have pt := q_in_t hA s1
      obtain ⟨a1, a2, a3⟩ := id h
      obtain ⟨a4, a5, a6, -⟩ := a3 rfl
      simp only at a1 a2 a4 a5 a6
      have h2 := hp (p1 + 1) n1 C1 (by omega) (by omega)
      by_cases e : (p (p1 + 1) n1 C1).1 = true
      · rw [q_bd_t e]
        refine q_G_lop hA hs hp hn f _ _ _ (q_g2 (C1 := C1) (n1 := n1) h ?_ s3)
        have : p (p1 + 1) n1 C1 = (true, (p (p1 + 1) n1 C1).2.1, (p (p1 + 1) n1 C1).2.2.1, (p (p1 + 1) n1 C1).2.2.2) := by rw [← e]
        rw [← this]; exact h2
      · rw [q_bd_f e]
        exact q_g_bad (p2 := 0) (by omega) h2 e
    · rw [if_neg g]; exact h
theorem q_eta {r : Bool × Nat × Nat × (Nat → Int32)} (e : r.1 = true) : r = (true, r.2.1, r.2.2.1, r.2.2.2) := by rw [← e]
theorem q_G_lvl {A : Nat → Int32} {t : Nat} {s : Int32 → Bool} {p : Nat → Nat → (Nat → Int32) → Bool × Nat × Nat × (Nat → Int32)} (hA : q_by8s A t) (hs : q_sgn s) (hp : q_G t p) : q_G t (q_lvl A t s p) := by
  intro pos n C hn ht
  have h := hp pos n C hn ht
  unfold q_lvl
  by_cases e : (p pos n C).1 = true
  · rw [q_bd_t e]
    exact q_G_lop hA hs hp hn t _ _ _ (by rw [← q_eta e]; exact h)
  · rw [q_bd_f e]; exact h
theorem q_G_cmd {A : Nat → Int32} {t : Nat} {p : Nat → Nat → (Nat → Int32) → Bool × Nat × Nat × (Nat → Int32)} (hA : q_by8s A t) (hp : q_G t p) : q_G t (q_cmd A p) := by
  intro pos n C hn ht
  have h := hp pos n C hn ht
  unfold q_cmd
  by_cases e : (p pos n C).1 = true
  · rw [q_bd_t e]
    rw [q_eta e] at h
    generalize p pos n C = r at h ⊢
    by_cases g : q_s2 (A r.2.1) = true
    · rw [if_pos g]
      obtain ⟨s1, s2, s3⟩ := q_sgn2 _ g
      have pt := q_in_t hA s1
      obtain ⟨a1, a2, a3⟩ := id h
      obtain ⟨a4, a5, a6, -⟩ := a3 rfl
      simp only at a1 a2 a4 a5 a6
      have h2 := hp (r.2.1 + 1) r.2.2.1 r.2.2.2 (by omega) (by omega)
      by_cases e2 : (p (r.2.1 + 1) r.2.2.1 r.2.2.2).1 = true
      · rw [q_bd_t e2]
        exact q_g2 h (by rw [← q_eta e2]; exact h2) s3
      · rw [q_bd_f e2]
        exact q_g_bad (p2 := 0) (by omega) h2 e2
    · rw [if_neg g]; exact h
  · rw [q_bd_f e]; exact h
theorem q_G_txt {A : Nat → Int32} {t : Nat} {p : Nat → Nat → (Nat → Int32) → Bool × Nat × Nat × (Nat → Int32)} (hA : q_by8s A t) (hp : q_G t p) : q_G t (q_txt A t p) := q_G_lvl hA q_sgn4 (q_G_lvl hA q_sgn3 (q_G_cmd hA (q_G_lvl hA q_sgn1 (q_G_lvl hA q_sgn0 hp))))
theorem q_rd_at {A : Nat → Int32} {t : Nat} (hA : q_by8s A t) : ∀ k pos v, pos ≤ t → pos ≤ (q_rd A k pos v).1 ∧ (q_rd A k pos v).1 ≤ t ∧ (∀ B, v < B → (q_rd A k pos v).2 < B * 10 ^ k)
  | 0, pos, v, h => ⟨Nat.le_refl _, h, fun B hB => by rw [Nat.pow_zero, Nat.mul_one]; exact hB⟩
  | k + 1, pos, v, h => by
    unfold q_rd
    by_cases g : 48 ≤ A pos ∧ A pos ≤ 57
    · rw [if_pos g]
      have pt : pos < t := q_in_t hA (fun z => by rw [z] at g; exact absurd g.1 (by decide))
      obtain ⟨b, b1, b2⟩ := hA.1 pos pt
      have hb : (A pos).toNatClampNeg = b := by rw [b2]; exact nI_clamp (by omega)
      have hb57 : b ≤ 57 := by
        have := g.2
        rw [b2] at this
        by_cases z : b ≤ 57
        · exact z
        · exact absurd this (show ¬ nI b ≤ nI 57 from nI_ge (by omega) (by omega))
      obtain ⟨i1, i2, i3⟩ := q_rd_at hA k (pos + 1) (v * 10 + ((A pos).toNatClampNeg - 48)) (by omega)
      refine ⟨by omega, i2, fun B hB => ?_⟩
      have := i3 (B * 10) (by rw [hb]; omega)
      rw [Nat.pow_succ, Nat.mul_comm (10 ^ k) 10, ← Nat.mul_assoc]
      exact this
    · rw [if_neg g]
      refine ⟨Nat.le_refl _, h, fun B hB => Nat.lt_of_lt_of_le hB (Nat.le_mul_of_pos_right _ (Nat.pow_pos (by decide)))⟩
theorem q_nm_at {u : Nat} {z : Int32} (h : ¬ q_nm u z < 0) : (q_nm u z = 0 ∨ q_nm u z = 1 ∨ q_nm u z = 2) ∧ z ≠ -1 := by
  unfold q_nm at h ⊢
  by_cases h1 : z = 119
  · rw [if_pos h1]; exact ⟨.inl rfl, by rw [h1]; decide⟩
  · rw [if_neg h1] at h ⊢
    by_cases h2 : z = (if u = 0 then 115 else 110)
    · rw [if_pos h2]; refine ⟨.inr (.inl rfl), ?_⟩
      rw [h2]; split <;> decide
    · rw [if_neg h2] at h ⊢
      by_cases h3 : z = 121
      · rw [if_pos h3]; exact ⟨.inr (.inr rfl), by rw [h3]; decide⟩
      · rw [if_neg h3] at h; exact absurd (by decide) h
/-- one that is laid -/
theorem q_g_one {t pos p1 n : Nat} {C : Nat → Int32} {z : Int32} (hn : n ≤ pos) (hp : pos < p1) (ht : p1 ≤ t) (h50 : t ≤ 50) (hz : 0 ≤ z ∧ z < 10003) : q_g1 t pos n C (true, p1, n + 1, upd C n z) := by
  have en : upd C n z n = z := if_pos rfl
  have ag : q_dp (upd C n z) n = q_dp C n := q_dp_ag n (fun i hi => if_neg (by omega))
  refine ⟨by simp only; omega, ht, fun _ => ⟨hp, by simp only; omega, by simp only; omega, fun j hj => if_neg (by omega), ?_, fun j hj hj2 => ?_⟩⟩
  · show q_dp (upd C n z) (n + 1) = _
    rw [q_dp_s, en, if_pos (Int32.lt_trans hz.2 (by decide)), ag]
  · have hj2 : j < n + 1 := hj2
    obtain rfl : j = n := by omega
    show q_tk (upd C j z j) (q_dp (upd C j z) j)
    rw [en, ag]
    have := q_dp_le (code := C) j
    exact .inl ⟨hz.1, hz.2, by omega⟩
theorem q_G_bse {A : Nat → Int32} {t u : Nat} (hA : q_by8s A t) (h50 : t ≤ 50) : q_G t (q_bse A u) := by
  intro pos n C hn ht
  unfold q_bse
  by_cases g : 48 ≤ A pos ∧ A pos ≤ 57
  · rw [if_pos g]
    have pt : pos < t := q_in_t hA (fun z => by rw [z] at g; exact absurd g.1 (by decide))
    have e : q_rd A 4 pos 0 = q_rd A 3 (pos + 1) (0 * 10 + ((A pos).toNatClampNeg - 48)) := if_pos g
    obtain ⟨-, i2, i3⟩ := q_rd_at hA 4 pos 0 ht
    obtain ⟨i1, -, -⟩ := q_rd_at hA 3 (pos + 1) (0 * 10 + ((A pos).toNatClampNeg - 48)) (by omega)
    rw [← e] at i1
    have lt := i3 1 (by omega)
    exact q_g_one hn (by omega) i2 h50 ⟨nI_pos' (by omega), (show nI _ < nI 10003 from nI_lt (by omega) (by omega))⟩
  · rw [if_neg g]
    by_cases h : q_nm u (A pos) < 0
    · rw [if_pos h]
      exact ⟨Nat.le_refl _, ht, fun z => by cases z⟩
    · rw [if_neg h]
      obtain ⟨h1, h2⟩ := q_nm_at h
      have pt := q_in_t hA h2
      refine q_g_one hn (by omega) (by omega) h50 ?_
      rcases h1 with e | e | e <;> rw [e] <;> decide
theorem q_G_lst {A : Nat → Int32} {t u : Nat} (hA : q_by8s A t) (h50 : t ≤ 50) : ∀ k, q_G t (q_lst A t u k)
  | 0 => q_G_bse hA h50
  | k + 1 => by
    intro pos n C hn ht
    have ih := q_G_lst (u := u) hA h50 k
    show q_g1 t pos n C (if A pos = 33 then q_bd (q_lst A t u k (pos + 1) n C) (fun p1 n1 C1 => (true, p1, n1 + 1, upd C1 n1 20033)) else if A pos = 40 then q_bd (q_txt A t (q_lst A t u k) (pos + 1) n C) (fun p1 n1 C1 => if A p1 = 41 then (true, p1 + 1, n1, C1) else (false, p1, n1, C1)) else q_bse A u pos n C)
    by_cases g1 : A pos = 33
    · rw [if_pos g1]
      have pt : pos < t := q_in_t hA (by rw [g1]; decide)
      have h := ih (pos + 1) n C (by omega) (by omega)
      by_cases e : (q_lst A t u k (pos + 1) n C).1 = true
      · rw [q_bd_t e]
        generalize q_lst A t u k (pos + 1) n C = r at h e ⊢
        obtain ⟨a1, a2, a3⟩ := h
        obtain ⟨a4, a5, a6, a7, a8, a9⟩ := a3 e
        have en : upd r.2.2.2 r.2.2.1 20033 r.2.2.1 = 20033 := if_pos rfl
        have eo : ∀ j, j ≠ r.2.2.1 → upd r.2.2.2 r.2.2.1 20033 j = r.2.2.2 j := fun j hj => if_neg hj
        have ag : ∀ j, j ≤ r.2.2.1 → q_dp (upd r.2.2.2 r.2.2.1 20033) j = q_dp r.2.2.2 j := fun j hj => q_dp_ag j (fun i hi => if_neg (by omega))
        refine ⟨by simp only; omega, a2, fun _ => ⟨by simp only; omega, by simp only; omega, by simp only; omega, fun j hj => ?_, ?_, fun j hj hj2 => ?_⟩⟩
        · show upd r.2.2.2 r.2.2.1 20033 j = C j
          rw [eo j (by omega)]; exact a7 j hj
        · show q_dp (upd r.2.2.2 r.2.2.1 20033) (r.2.2.1 + 1) = _
          rw [q_dp_s, en, if_neg (by decide), if_pos rfl, ag _ (Nat.le_refl _)]; exact a8
        · show q_tk (upd r.2.2.2 r.2.2.1 20033 j) (q_dp (upd r.2.2.2 r.2.2.1 20033) j)
          have hj2 : j < r.2.2.1 + 1 := hj2
          by_cases z : j = r.2.2.1
          · subst z
            rw [en, ag _ (Nat.le_refl _), a8]
            exact .inr (.inl ⟨rfl, by omega⟩)
          · rw [eo j z, ag j (by omega)]
            exact a9 j hj (by omega)
      · rw [q_bd_f e]
        exact q_g_bad (p2 := 0) (by omega) h e
    · rw [if_neg g1]
      by_cases g2 : A pos = 40
      · rw [if_pos g2]
        have pt : pos < t := q_in_t hA (by rw [g2]; decide)
        have h := q_G_txt hA ih (pos + 1) n C (by omega) (by omega)
        by_cases e : (q_txt A t (q_lst A t u k) (pos + 1) n C).1 = true
        · rw [q_bd_t e]
          generalize q_txt A t (q_lst A t u k) (pos + 1) n C = r at h e ⊢
          obtain ⟨a1, a2, a3⟩ := h
          obtain ⟨a4, a5, a6, a7, a8, a9⟩ := a3 e
          by_cases g3 : A r.2.1 = 41
          · rw [if_pos g3]
            have pt2 : r.2.1 < t := q_in_t hA (by rw [g3]; decide)
            exact ⟨by simp only; omega, by simp only; omega, fun _ => ⟨by simp only; omega, a5, by simp only; omega, a7, a8, a9⟩⟩
          · rw [if_neg g3]
            exact ⟨by simp only; omega, a2, fun z => by cases z⟩
        · rw [q_bd_f e]
          exact q_g_bad (p2 := 0) (by omega) h e
      · rw [if_neg g2]
        exact q_G_bse hA h50 pos n C hn ht
