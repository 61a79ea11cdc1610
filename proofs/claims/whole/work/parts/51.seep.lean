/-! what seeps in the cloth is what seeps in the row D -/
theorem q_toI {n : Nat} (h : n < 2 ^ 31) : (nI n).toInt = n := nI_toInt h
theorem q_df_neg {D : Nat → Int32} {a b : Nat} (ha : ∃ w, D (5 + a) = nI w ∧ w ≤ 99) (hb : ∃ w, D (5 + b) = nI w ∧ w ≤ 99) : - q_df (D (5 + b)) (D (5 + a)) = q_df (D (5 + a)) (D (5 + b)) := by
  obtain ⟨x, hx, hx9⟩ := ha
  obtain ⟨y, hy, hy9⟩ := hb
  rw [hx, hy]
  have e1 : (nI x - nI y).toInt = (x : Int) - y := pk_sub_toInt (by omega) (by omega)
  have e2 : (nI y - nI x).toInt = (y : Int) - x := pk_sub_toInt (by omega) (by omega)
  have k1 : (10 : Int32).toInt = 10 := by decide
  have k2 : (-10 : Int32).toInt = -10 := by decide
  unfold q_df
  rcases Nat.lt_or_ge (y + 9) x with h | h
  · have a1 : 10 ≤ nI x - nI y := by rw [fa_le, e1, k1]; omega
    have a2 : ¬ 10 ≤ nI y - nI x := by rw [fa_le, e2, k1]; omega
    have a3 : nI y - nI x ≤ -10 := by rw [fa_le, e2, k2]; omega
    rw [if_pos a1, if_neg a2, if_pos a3]
  · rcases Nat.lt_or_ge (x + 9) y with h2 | h2
    · have a1 : ¬ 10 ≤ nI x - nI y := by rw [fa_le, e1, k1]; omega
      have a2 : 10 ≤ nI y - nI x := by rw [fa_le, e2, k1]; omega
      have a3 : nI x - nI y ≤ -10 := by rw [fa_le, e1, k2]; omega
      rw [if_neg a1, if_pos a2, if_pos a3]; rfl
    · have a1 : ¬ 10 ≤ nI x - nI y := by rw [fa_le, e1, k1]; omega
      have a2 : ¬ 10 ≤ nI y - nI x := by rw [fa_le, e2, k1]; omega
      have a3 : ¬ nI x - nI y ≤ -10 := by rw [fa_le, e1, k2]; omega
      have a4 : ¬ nI y - nI x ≤ -10 := by rw [fa_le, e2, k2]; omega
      rw [if_neg a1, if_neg a2, if_neg a3, if_neg a4]; rfl
def q_x (D : Nat → Int32) (c b : Nat) : Int32 := if D (21 + b) + D (21 + c) = 0 then q_df (D (5 + c)) (D (5 + b)) else 0
theorem q_01 {x y : Int32} (hx : x = 0 ∨ x = 1) (hy : y = 0 ∨ y = 1) : x + y = 0 ↔ ¬ (x = 1 ∨ y = 1) := by
  rcases hx with rfl | rfl <;> rcases hy with rfl | rfl <;> decide
theorem q_tf_x {D was : Nat → Int32} {torn : Int32} {a b : Nat} (hok : q_ok D) (ht : torn = q_set (fun c => decide (D (21 + c) = 1)) 16) (hw : ∀ c, c < 16 → was c = D (5 + c)) (ha : a < 16) (hb : b < 16) : q_tf torn was a b = q_x D b a ∧ - q_tf torn was a b = q_x D a b := by
  obtain ⟨-, -, hwet, htorn, -⟩ := hok
  have e1 : ((torn >>> (nI a &&& 31) ||| torn >>> (nI b &&& 31)) &&& 1 = 1) ↔ (D (21 + a) = 1 ∨ D (21 + b) = 1) := by
    rw [q_bit2o (by omega) (by omega), ht, q_set_bt 16 (by omega) a (by omega), q_set_bt 16 (by omega) b (by omega)]
    simp [ha, hb]
  have e2 := q_01 (htorn a ha) (htorn b hb)
  have e3 := q_01 (htorn b hb) (htorn a ha)
  have n := q_df_neg (hwet a ha) (hwet b hb)
  unfold q_tf q_x
  rw [hw a ha, hw b hb]
  by_cases h : D (21 + a) = 1 ∨ D (21 + b) = 1
  · rw [if_pos (e1.mpr h), if_neg (fun z => e2.mp z h), if_neg (fun z => e3.mp z h.symm)]
    exact ⟨rfl, rfl⟩
  · rw [if_neg (fun z => h (e1.mp z)), if_pos (e2.mpr h), if_pos (e3.mpr (fun z => h z.symm))]
    exact ⟨rfl, n⟩
theorem q_chg_x {D : Nat → Int32} {c : Nat} : q_chg D c = q_sum (fun b => if q_adj c b = true then q_x D c b else 0) 16 := by
  unfold q_chg
  congr 1
  funext b
  unfold q_x
  by_cases h : q_adj c b = true
  · by_cases h2 : D (21 + b) + D (21 + c) = 0
    · rw [if_pos ⟨h, h2⟩, if_pos h, if_pos h2]
    · rw [if_neg (fun z => h2 z.2), if_pos h, if_neg h2]
  · rw [if_neg (fun z => h z.1), if_neg h]
set_option maxRecDepth 4000 in
set_option maxHeartbeats 4000000 in
theorem q_sqc_chg {D was : Nat → Int32} {torn : Int32} {j : Nat} (hok : q_ok D) (ht : torn = q_set (fun c => decide (D (21 + c) = 1)) 16) (hw : ∀ c, c < 16 → was c = D (5 + c)) (hj : j < 16) : q_sqc torn was j 16 = q_chg D j := by
  have hX : ∀ a b, a < 16 → b < 16 → q_tc torn was j a b = if j = b then q_x D b a else if j = a then q_x D a b else 0 := by
    intro a b ha hb
    obtain ⟨h1, h2⟩ := q_tf_x hok ht hw ha hb
    unfold q_tc
    by_cases e : j = b
    · rw [if_pos e, if_pos e, h1]
    · rw [if_neg e, if_neg e]
      by_cases e2 : j = a
      · rw [if_pos e2, if_pos e2, h2]
      · rw [if_neg e2, if_neg e2]
  rw [q_chg_x]
  generalize q_x D = X at hX ⊢
  have r : j = 0 ∨ j = 1 ∨ j = 2 ∨ j = 3 ∨ j = 4 ∨ j = 5 ∨ j = 6 ∨ j = 7 ∨ j = 8 ∨ j = 9 ∨ j = 10 ∨ j = 11 ∨ j = 12 ∨ j = 13 ∨ j = 14 ∨ j = 15 := by omega
  rcases r with rfl | rfl | rfl | rfl | rfl | rfl | rfl | rfl | rfl | rfl | rfl | rfl | rfl | rfl | rfl | rfl <;> simp [q_sqc, q_sum, hX, q_adj]
/-- what seeps leaves 0 to 99 nowhere -/
theorem q_sum_r {f : Nat → Int32} {p : Nat → Bool} {lo hi : Prop} (h : ∀ b, (p b = false → f b = 0) ∧ (f b = 0 ∨ (f b = 1 ∧ ¬ hi) ∨ (f b = -1 ∧ ¬ lo))) : ∀ n, n ≤ 16 → - (q_ct p n : Int) ≤ (q_sum f n).toInt ∧ (q_sum f n).toInt ≤ q_ct p n ∧ q_ct p n ≤ n ∧ (lo → 0 ≤ (q_sum f n).toInt) ∧ (hi → (q_sum f n).toInt ≤ 0)
  | 0, _ => by
    show - ((0 : Nat) : Int) ≤ (0 : Int32).toInt ∧ (0 : Int32).toInt ≤ ((0 : Nat) : Int) ∧ 0 ≤ 0 ∧ (lo → 0 ≤ (0 : Int32).toInt) ∧ (hi → (0 : Int32).toInt ≤ 0)
    rw [show (0 : Int32).toInt = 0 from rfl]
    exact ⟨by omega, by omega, by omega, fun _ => by omega, fun _ => by omega⟩
  | n + 1, hn => by
    obtain ⟨h1, h2, h3, h4, h5⟩ := q_sum_r h n (by omega)
    obtain ⟨g1, g2⟩ := h n
    have es : q_sum f (n + 1) = q_sum f n + f n := rfl
    have ec : q_ct p (n + 1) = q_ct p n + (if p n then 1 else 0) := rfl
    have k0 : (0 : Int32).toInt = 0 := rfl
    have k1 : (1 : Int32).toInt = 1 := rfl
    have k2 : (-1 : Int32).toInt = -1 := by decide
    rw [es, ec]
    by_cases hp : p n = true
    · rw [if_pos hp]
      rcases g2 with g | ⟨g, g3⟩ | ⟨g, g3⟩
      · rw [g, Int32.add_zero]
        exact ⟨by omega, by omega, by omega, h4, h5⟩
      · rw [g, fb_addI (by rw [k1]; omega) (by rw [k1]; omega), k1]
        exact ⟨by omega, by omega, by omega, fun z => by have := h4 z; omega, fun z => absurd z g3⟩
      · rw [g, fb_addI (by rw [k2]; omega) (by rw [k2]; omega), k2]
        exact ⟨by omega, by omega, by omega, fun z => absurd z g3, fun z => by have := h5 z; omega⟩
    · have hp' : p n = false := by simpa using hp
      rw [if_neg hp, g1 hp', Int32.add_zero]
      exact ⟨by omega, by omega, by omega, h4, h5⟩
theorem q_ct4 : ∀ c, c < 16 → q_ct (fun b => q_adj c b) 16 ≤ 4 := by decide +kernel
theorem q_hd_id {v : Int32} (h0 : 0 ≤ v.toInt) (h1 : v.toInt ≤ 99) : q_hd v = v := by
  unfold q_hd
  have k : (99 : Int32).toInt = 99 := by decide
  have k0 : (0 : Int32).toInt = 0 := rfl
  rw [if_neg (by rw [fa_lt, k0]; omega), if_neg (by rw [fa_lt, k]; omega)]
theorem q_chg_hd {D : Nat → Int32} {c : Nat} (hok : q_ok D) (hc : c < 16) : q_hd (D (5 + c) + q_chg D c) = D (5 + c) + q_chg D c := by
  obtain ⟨-, -, hwet, htorn, -⟩ := hok
  obtain ⟨w, hw, hw9⟩ := hwet c hc
  have hb : ∀ b, b < 16 → ((if q_adj c b = true then q_x D c b else 0 : Int32) = 0 ∨ ((if q_adj c b = true then q_x D c b else 0 : Int32) = 1 ∧ ¬ 89 < w) ∨ ((if q_adj c b = true then q_x D c b else 0 : Int32) = -1 ∧ ¬ w < 10)) := by
    intro b hb
    by_cases ha : q_adj c b = true
    · rw [if_pos ha]
      unfold q_x
      by_cases ht : D (21 + b) + D (21 + c) = 0
      · rw [if_pos ht]
        obtain ⟨y, hy, hy9⟩ := hwet b hb
        unfold q_df
        rw [hw, hy]
        have e2 : (nI y - nI w).toInt = (y : Int) - w := pk_sub_toInt (by omega) (by omega)
        have k1 : (10 : Int32).toInt = 10 := by decide
        have k2 : (-10 : Int32).toInt = -10 := by decide
        by_cases a1 : 10 ≤ nI y - nI w
        · rw [if_pos a1]
          rw [fa_le, e2, k1] at a1
          exact Or.inr (Or.inl ⟨rfl, by omega⟩)
        · rw [if_neg a1]
          by_cases a2 : nI y - nI w ≤ -10
          · rw [if_pos a2]
            rw [fa_le, e2, k2] at a2
            exact Or.inr (Or.inr ⟨rfl, by omega⟩)
          · rw [if_neg a2]; exact Or.inl rfl
      · rw [if_neg ht]; exact Or.inl rfl
    · rw [if_neg ha]; exact Or.inl rfl
  have hsum : q_chg D c = q_sum (fun b => if b < 16 then (if q_adj c b = true then q_x D c b else 0 : Int32) else 0) 16 := by
    rw [q_chg_x]
    have cong : ∀ (f g : Nat → Int32) n, (∀ k, k < n → f k = g k) → q_sum f n = q_sum g n := by
      intro f g n
      induction n with
      | zero => intro _; rfl
      | succ n ih => intro h; show q_sum f n + f n = q_sum g n + g n; rw [ih (fun k hk => h k (by omega)), h n (by omega)]
    exact cong _ _ _ (fun k hk => by rw [if_pos hk])
  obtain ⟨r1, r2, r3, r4, r5⟩ := q_sum_r (f := fun b => if b < 16 then (if q_adj c b = true then q_x D c b else 0 : Int32) else 0) (p := fun b => q_adj c b) (lo := w < 10) (hi := 89 < w) (fun b => by
    refine ⟨fun hp => ?_, ?_⟩
    · by_cases h16 : b < 16
      · rw [if_pos h16, if_neg (by rw [hp]; decide)]
      · rw [if_neg h16]
    · by_cases h16 : b < 16
      · rw [if_pos h16]; exact hb b h16
      · rw [if_neg h16]; exact Or.inl rfl) 16 (by omega)
  rw [← hsum] at r1 r2 r4 r5
  have h4 := q_ct4 c hc
  have ew : (nI w).toInt = w := nI_toInt (by omega)
  have ea : (nI w + q_chg D c).toInt = w + (q_chg D c).toInt := by rw [fb_addI (by rw [ew]; omega) (by rw [ew]; omega), ew]
  rw [hw]
  by_cases l : w < 10
  · have := r4 l
    exact q_hd_id (by rw [ea]; omega) (by rw [ea]; omega)
  · by_cases m : 89 < w
    · have := r5 m
      exact q_hd_id (by rw [ea]; omega) (by rw [ea]; omega)
    · exact q_hd_id (by rw [ea]; omega) (by rw [ea]; omega)
