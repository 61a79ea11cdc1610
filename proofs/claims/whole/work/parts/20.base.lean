/-! plain words -/
def q_b (p : Prop) [Decidable p] : Int32 := if p then 1 else 0
theorem q_b0 {p : Prop} [Decidable p] : (q_b p = 0) ↔ ¬ p := by unfold q_b; by_cases h : p <;> simp [h]
theorem q_b1 {p : Prop} [Decidable p] : (q_b p = 1) ↔ p := by unfold q_b; by_cases h : p <;> simp [h]
theorem q_b01 {p : Prop} [Decidable p] : (q_b p = 0 ∨ q_b p = 1) ↔ True := by unfold q_b; by_cases h : p <;> simp [h]
theorem q_bt {p : Prop} [Decidable p] (h : p) : q_b p = 1 := if_pos h
theorem q_bf {p : Prop} [Decidable p] (h : ¬ p) : q_b p = 0 := if_neg h
theorem q_skx {v : Value} (h : gc_sk v ≠ false) : gc_sk v = true := by cases e : gc_sk v <;> simp_all
theorem q_ski {x : Int32} : gc_sk (.int x) = true := q_skx (by simp [gc_sk])
theorem q_skr {x : Nat} : gc_sk (.ref x) = true := q_skx (by simp [gc_sk])
theorem q_sku : gc_sk (.retAddr 0) = true := q_skx (by simp [gc_sk])
theorem q_not {P A B : Prop} [Decidable P] : (if ¬ P then A else B) ↔ if P then B else A := by by_cases h : P <;> simp [h]
/-- two ways that meet -/
theorem q_join {P : Prop} [Decidable P] {C : gC} {cc : ByteArray} {k b pc : Nat} {R : gR} {L st : List Value} {μ : gM} {x y : Int32} : (if P then gc_W C cc k b R pc L (.int x :: st) μ else gc_W C cc k b R pc L (.int y :: st) μ) ↔ gc_W C cc k b R pc L (.int (if P then x else y) :: st) μ := by by_cases h : P <;> simp [h]
theorem q_ite_and {P : Prop} [Decidable P] {A B C : Prop} : (if P then (A ∧ C) else (B ∧ C)) ↔ ((if P then A else B) ∧ C) := by by_cases h : P <;> simp [h]
theorem q_z1 : ((0 : Int32) = 0 ∨ (0 : Int32) = 1) ↔ True := by simp
theorem q_z2 : ((1 : Int32) = 0 ∨ (1 : Int32) = 1) ↔ True := by simp
theorem q_lt {a b : Int32} : ¬ a < b ↔ b ≤ a := Int32.not_lt
theorem q_le {a b : Int32} : ¬ a ≤ b ↔ b < a := Int32.not_le
theorem q_iR {P : Prop} [Decidable P] {R : gR} {x y : Int32} {μ : gM} : (if P then R (some (.int x)) μ else R (some (.int y)) μ) ↔ R (some (.int (if P then x else y))) μ := by by_cases h : P <;> simp [h]
/-- Row.has -/
theorem t_has {d : Nat} {R : gR} {μ : gM} {r : Nat} {i : Int32} (hr : gc_kd r = 7) (h1 : ∀ μ, gc_fv r 1 μ = .int (μ r 1)) : gc_S (d + 1) 70 [.ref r, .int i] μ R ↔ R (some (.int (q_b (0 ≤ i ∧ i < μ r 1)))) μ := by
  simp only [s70, u70_0, u70_1, u70_4, u70_5, u70_6, u70_9, u70_12, u70_13, u70_16, u70_17, hr, h1, q_z1, q_z2, true_and]
  unfold q_b
  by_cases ha : i < 0
  · have : ¬ (0 ≤ i ∧ i < μ r 1) := fun h => absurd h.1 (Int32.not_le.mpr ha)
    simp [ha, this]
  · have h0 := Int32.not_lt.mp ha
    by_cases hb : μ r 1 ≤ i
    · have : ¬ (0 ≤ i ∧ i < μ r 1) := fun h => absurd h.2 (Int32.not_lt.mpr hb)
      simp [ha, hb, this]
    · simp [ha, hb, h0, Int32.not_le.mp hb]
theorem t_upTo {d : Nat} {R : gR} {μ : gM} {a v : Int32} : gc_S (d + 1) 73 [.int a, .int v] μ R ↔ R (some (.int (q_b (0 ≤ v ∧ v ≤ a)))) μ := by
  simp only [s73, u73_0, u73_1, u73_4, u73_5, u73_6, u73_9, u73_10, u73_13, u73_14, q_z1, q_z2, true_and]
  unfold q_b
  by_cases ha : v < 0
  · have : ¬ (0 ≤ v ∧ v ≤ a) := fun h => absurd h.1 (Int32.not_le.mpr ha)
    simp [ha, this]
  · have h0 := Int32.not_lt.mp ha
    by_cases hb : a < v
    · have : ¬ (0 ≤ v ∧ v ≤ a) := fun h => absurd h.2 (Int32.not_le.mpr hb)
      simp [ha, hb, this]
    · simp [ha, hb, h0, Int32.not_lt.mp hb]
theorem t_isCell {d : Nat} {R : gR} {μ : gM} {v : Int32} : gc_S (d + 2) 74 [.int v] μ R ↔ R (some (.int (q_b (0 ≤ v ∧ v ≤ 15)))) μ := by
  simp only [s74, u74_0, u74_2, u74_3, u74_6, t_upTo, Option.toList, List.cons_append, List.nil_append, q_ski, q_skr, q_sku, if_true, if_false, q_b01, true_and]
theorem t_refused {d : Nat} {R : gR} {μ : gM} {e : Int32} (he : vp_in e 6) : gc_S (d + 1) 75 [.ref 0, .int e] μ R ↔ R (some (.int (-1000000000 - e))) (gc_up μ 79 e.toNatClampNeg (μ 79 e.toNatClampNeg + 1)) := by
  simp only [s75, u75_0, u75_1, u75_4, u75_5, u75_6, u75_7, u75_8, u75_9, u75_10, u75_13, u75_14, u75_15, ly_kd, ly_al, ly_fv0, ly_fv1, ly_fv2, ly_fv3, ly_fv4, ly_fk, ly_ra, he, true_and]
theorem q_vp {i : Int32} {n : Nat} (h : ¬ (i < 0 ∨ n ≤ i.toNatClampNeg)) : vp_in i n := h
theorem q_vpb {i : Int32} {n : Nat} : vp_in i n ↔ ¬ (i < 0 ∨ n ≤ i.toNatClampNeg) := Iff.rfl
theorem q_rng {p K : Int32} {n : Nat} (hK : K.toInt = n) (h : 0 ≤ p ∧ p ≤ K) : ∃ j : Nat, j ≤ n ∧ p = nI j := nI_of2 hK (Int32.not_lt.mpr h.1) h.2
theorem t_ref1 {d : Nat} {R : gR} {μ : gM} : gc_S (d + 1) 75 [.ref 0, .int 1] μ R ↔ R (some (.int (-1000000001))) (gc_up μ 79 1 (μ 79 1 + 1)) := t_refused (q_vp (by decide : ¬ ((1 : Int32) < 0 ∨ 6 ≤ (1 : Int32).toNatClampNeg)))
theorem t_ref2 {d : Nat} {R : gR} {μ : gM} : gc_S (d + 1) 75 [.ref 0, .int 2] μ R ↔ R (some (.int (-1000000002))) (gc_up μ 79 2 (μ 79 2 + 1)) := t_refused (q_vp (by decide : ¬ ((2 : Int32) < 0 ∨ 6 ≤ (2 : Int32).toNatClampNeg)))
theorem t_ref3 {d : Nat} {R : gR} {μ : gM} : gc_S (d + 1) 75 [.ref 0, .int 3] μ R ↔ R (some (.int (-1000000003))) (gc_up μ 79 3 (μ 79 3 + 1)) := t_refused (q_vp (by decide : ¬ ((3 : Int32) < 0 ∨ 6 ≤ (3 : Int32).toNatClampNeg)))
theorem t_ref4 {d : Nat} {R : gR} {μ : gM} : gc_S (d + 1) 75 [.ref 0, .int 4] μ R ↔ R (some (.int (-1000000004))) (gc_up μ 79 4 (μ 79 4 + 1)) := t_refused (q_vp (by decide : ¬ ((4 : Int32) < 0 ∨ 6 ≤ (4 : Int32).toNatClampNeg)))
theorem t_ref5 {d : Nat} {R : gR} {μ : gM} : gc_S (d + 1) 75 [.ref 0, .int 5] μ R ↔ R (some (.int (-1000000005))) (gc_up μ 79 5 (μ 79 5 + 1)) := t_refused (q_vp (by decide : ¬ ((5 : Int32) < 0 ∨ 6 ≤ (5 : Int32).toNatClampNeg)))
theorem t_ofList {d : Nat} {R : gR} {μ : gM} {p : Int32} : gc_S (d + 2) 79 [.ref 0, .int p] μ R ↔ if 0 ≤ p ∧ p ≤ 5 then R (some (.int (μ 34 p.toNatClampNeg))) μ else R (some (.int (-1000000001))) (gc_up μ 79 1 (μ 79 1 + 1)) := by
  simp only [s79, u79_0, u79_1, u79_2, u79_5, u79_8, u79_9, u79_12, u79_15, u79_16, u79_17, u79_20, u79_21, u79_22, u79_25, t_upTo, t_ref1, ly_kd, ly_al, ly_fv0, ly_fv1, ly_fv2, ly_fv3, ly_fv4, ly_fk, ly_ra, Option.toList, List.cons_append, List.nil_append, q_ski, q_skr, q_sku, if_true, if_false, q_b0, q_not]
  by_cases h : 0 ≤ p ∧ p ≤ 5
  · obtain ⟨j, hj, rfl⟩ := q_rng (n := 5) rfl h
    simp only [h, and_self, if_true, vp_in_nI (show j < 6 by omega) (by decide), true_and, nI_clamp (show j < 2 ^ 31 by omega)]
  · simp only [h, if_false]
/-- all WET -/
def q_sum (f : Nat → Int32) : Nat → Int32
  | 0 => 0
  | n + 1 => q_sum f n + f n
theorem q_loop {X : Nat → Prop} {Y : Prop} (N : Nat) (hs : ∀ c, c < N → (X c ↔ X (c + 1))) (he : X N ↔ Y) : X 0 ↔ Y := by
  have key : ∀ n c, c + n = N → (X c ↔ Y) := by
    intro n
    induction n with
    | zero => intro c hc; obtain rfl : c = N := by omega
              exact he
    | succ n ih => intro c hc; rw [hs c (by omega)]; exact ih (c + 1) (by omega)
  exact key N 0 (by omega)
theorem fa_lt (a b : Int32) : a < b ↔ a.toInt < b.toInt := Int32.lt_iff_toInt_lt
theorem fa_le (a b : Int32) : a ≤ b ↔ a.toInt ≤ b.toInt := Int32.le_iff_toInt_le
theorem fa_lt64 (a b : Int64) : a < b ↔ a.toInt < b.toInt := Int64.lt_iff_toInt_lt
theorem fa_le64 (a b : Int64) : a ≤ b ↔ a.toInt ≤ b.toInt := Int64.le_iff_toInt_le
theorem fa_wide_le (a b : Int32) : a.toInt64 ≤ b.toInt64 ↔ a ≤ b := by rw [fa_le64, fa_le, Int32.toInt_toInt64, Int32.toInt_toInt64]
theorem q_nle {c N : Nat} (h : c < N) (hN : N < 2 ^ 31) {K : Int32} (hK : K = nI N) : ¬ K ≤ nI c := by rw [hK]; exact fun h2 => absurd h2 (nI_ge h hN)
theorem q_up_same {μ : gM} {o j : Nat} {x : Int32} : gc_up μ o j x o j = x := by simp [gc_up, upd]
theorem q_up_j {μ : gM} {o j i : Nat} {x : Int32} (h : i ≠ j) : gc_up μ o j x o i = μ o i := by simp [gc_up, upd, h]
theorem q_up_o {μ : gM} {o o' j i : Nat} {x : Int32} (h : o' ≠ o) : gc_up μ o j x o' i = μ o' i := by simp [gc_up, h]
theorem q_cp_o {μ : gM} {o1 o2 a b n o' i : Nat} (h : o' ≠ o2) : gc_cp μ o1 o2 a b n o' i = μ o' i := by rw [gc_cp_ne h]
theorem q_cp_0 {μ : gM} {o1 o2 a b : Nat} : gc_cp μ o1 o2 a b 0 = μ := by
  funext o i
  by_cases h : o = o2
  · subst h; rw [gc_cp_eq]; unfold va_cpy; rw [if_neg (by omega)]
  · rw [gc_cp_ne h]
theorem q_cp_s {μ : gM} {o1 o2 a b n : Nat} : gc_up (gc_cp μ o1 o2 a b n) o2 (b + n) (μ o1 (a + n)) = gc_cp μ o1 o2 a b (n + 1) := by
  funext o i
  by_cases h : o = o2
  · subst h
    rw [gc_up_eq, gc_cp_eq, gc_cp_eq]
    unfold upd va_cpy
    by_cases h1 : i = b + n
    · subst h1; rw [if_pos rfl, if_pos (by omega)]; congr 1; omega
    · rw [if_neg h1]
      by_cases h2 : b ≤ i ∧ i < b + n
      · rw [if_pos h2, if_pos (by omega)]
      · rw [if_neg h2, if_neg (by omega)]
  · rw [gc_up_ne h, gc_cp_ne h, gc_cp_ne h]
theorem q_cp_in {μ : gM} {o1 o2 a b n i : Nat} (h : b ≤ i ∧ i < b + n) : gc_cp μ o1 o2 a b n o2 i = μ o1 (a + (i - b)) := by rw [gc_cp_eq]; exact if_pos h
theorem q_cp_out {μ : gM} {o1 o2 a b n i : Nat} (h : ¬ (b ≤ i ∧ i < b + n)) : gc_cp μ o1 o2 a b n o2 i = μ o2 i := by rw [gc_cp_eq]; exact if_neg h
theorem q_cl {x y : Int64} : lg_cmp x y < 0 ↔ x < y := by
  rw [← Int32.not_le, lg_cmp_ge, Int64.not_le]
theorem q_cg {x y : Int64} : 0 < lg_cmp x y ↔ y < x := by
  unfold lg_cmp
  by_cases h : x > y
  · simp [h]
  · rw [if_neg h]
    by_cases h2 : x = y
    · rw [if_pos h2]; simp [h2]
    · rw [if_neg h2]; exact ⟨fun z => absurd z (by decide), fun z => absurd z h⟩
theorem q_loop0 {X : Nat → Prop} {P Y : Prop} (N : Nat) (h0 : P ↔ X 0) (hs : ∀ c, c < N → (X c ↔ X (c + 1))) (he : X N ↔ Y) : P ↔ Y := h0.trans (q_loop N hs he)
theorem q_tn : Int32.toNatClampNeg 0 = 0 ∧ Int32.toNatClampNeg 1 = 1 ∧ Int32.toNatClampNeg 2 = 2 ∧ Int32.toNatClampNeg 3 = 3 ∧ Int32.toNatClampNeg 4 = 4 ∧ Int32.toNatClampNeg 5 = 5 ∧ Int32.toNatClampNeg 6 = 6 ∧ Int32.toNatClampNeg 7 = 7 ∧ Int32.toNatClampNeg 8 = 8 ∧ Int32.toNatClampNeg 9 = 9 ∧ Int32.toNatClampNeg 10 = 10 ∧ Int32.toNatClampNeg 11 = 11 ∧ Int32.toNatClampNeg 12 = 12 ∧ Int32.toNatClampNeg 13 = 13 ∧ Int32.toNatClampNeg 14 = 14 ∧ Int32.toNatClampNeg 15 = 15 ∧ Int32.toNatClampNeg 16 = 16 ∧ Int32.toNatClampNeg 17 = 17 ∧ Int32.toNatClampNeg 18 = 18 ∧ Int32.toNatClampNeg 19 = 19 ∧ Int32.toNatClampNeg 20 = 20 ∧ Int32.toNatClampNeg 21 = 21 ∧ Int32.toNatClampNeg 22 = 22 ∧ Int32.toNatClampNeg 23 = 23 ∧ Int32.toNatClampNeg 24 = 24 ∧ Int32.toNatClampNeg 25 = 25 ∧ Int32.toNatClampNeg 26 = 26 ∧ Int32.toNatClampNeg 27 = 27 ∧ Int32.toNatClampNeg 28 = 28 ∧ Int32.toNatClampNeg 29 = 29 ∧ Int32.toNatClampNeg 30 = 30 ∧ Int32.toNatClampNeg 31 = 31 ∧ Int32.toNatClampNeg 32 = 32 ∧ Int32.toNatClampNeg 33 = 33 ∧ Int32.toNatClampNeg 34 = 34 ∧ Int32.toNatClampNeg 35 = 35 ∧ Int32.toNatClampNeg 36 = 36 ∧ Int32.toNatClampNeg 37 = 37 ∧ Int32.toNatClampNeg 38 = 38 ∧ Int32.toNatClampNeg 39 = 39 ∧ Int32.toNatClampNeg 40 = 40 ∧ Int32.toNatClampNeg 41 = 41 ∧ Int32.toNatClampNeg 42 = 42 ∧ Int32.toNatClampNeg 43 = 43 ∧ Int32.toNatClampNeg 44 = 44 ∧ Int32.toNatClampNeg 45 = 45 ∧ Int32.toNatClampNeg 46 = 46 ∧ Int32.toNatClampNeg 47 = 47 ∧ Int32.toNatClampNeg 48 = 48 ∧ Int32.toNatClampNeg 49 = 49 ∧ Int32.toNatClampNeg 50 = 50 ∧ Int32.toNatClampNeg 51 = 51 ∧ Int32.toNatClampNeg 52 = 52 ∧ Int32.toNatClampNeg 53 = 53 ∧ Int32.toNatClampNeg 54 = 54 ∧ Int32.toNatClampNeg 55 = 55 ∧ Int32.toNatClampNeg 56 = 56 ∧ Int32.toNatClampNeg 57 = 57 ∧ Int32.toNatClampNeg 58 = 58 ∧ Int32.toNatClampNeg 59 = 59 ∧ Int32.toNatClampNeg 60 = 60 ∧ Int32.toNatClampNeg 61 = 61 ∧ Int32.toNatClampNeg 62 = 62 ∧ Int32.toNatClampNeg 63 = 63 ∧ Int32.toNatClampNeg 69 = 69 ∧ Int32.toNatClampNeg 75 = 75 ∧ Int32.toNatClampNeg 77 = 77 ∧ Int32.toNatClampNeg 97 = 97 ∧ Int32.toNatClampNeg 99 = 99 ∧ Int32.toNatClampNeg 197 = 197 ∧ Int32.toNatClampNeg 247 = 247 := ⟨by decide, by decide, by decide, by decide, by decide, by decide, by decide, by decide, by decide, by decide, by decide, by decide, by decide, by decide, by decide, by decide, by decide, by decide, by decide, by decide, by decide, by decide, by decide, by decide, by decide, by decide, by decide, by decide, by decide, by decide, by decide, by decide, by decide, by decide, by decide, by decide, by decide, by decide, by decide, by decide, by decide, by decide, by decide, by decide, by decide, by decide, by decide, by decide, by decide, by decide, by decide, by decide, by decide, by decide, by decide, by decide, by decide, by decide, by decide, by decide, by decide, by decide, by decide, by decide, by decide, by decide, by decide, by decide, by decide, by decide, by decide⟩
theorem q_v247 : vp_in 0 247 ∧ vp_in 1 247 ∧ vp_in 2 247 ∧ vp_in 3 247 ∧ vp_in 4 247 ∧ vp_in 75 247 ∧ vp_in 76 247 := ⟨q_vp (by decide), q_vp (by decide), q_vp (by decide), q_vp (by decide), q_vp (by decide), q_vp (by decide), q_vp (by decide)⟩
theorem q_wl0 {v : Int32} : (0 : Int64) ≤ v.toInt64 ↔ 0 ≤ v := by rw [show (0 : Int64) = Int32.toInt64 0 by decide, fa_wide_le]
theorem q_wl1 {v : Int32} : (1 : Int64) ≤ v.toInt64 ↔ 1 ≤ v := by rw [show (1 : Int64) = Int32.toInt64 1 by decide, fa_wide_le]
theorem q_wl48 {v : Int32} : (48 : Int64) ≤ v.toInt64 ↔ 48 ≤ v := by rw [show (48 : Int64) = Int32.toInt64 48 by decide, fa_wide_le]
theorem q_wu1 {v : Int32} : v.toInt64 ≤ (1 : Int64) ↔ v ≤ 1 := by rw [show (1 : Int64) = Int32.toInt64 1 by decide, fa_wide_le]
theorem q_wu2 {v : Int32} : v.toInt64 ≤ (2 : Int64) ↔ v ≤ 2 := by rw [show (2 : Int64) = Int32.toInt64 2 by decide, fa_wide_le]
theorem q_wu3 {v : Int32} : v.toInt64 ≤ (3 : Int64) ↔ v ≤ 3 := by rw [show (3 : Int64) = Int32.toInt64 3 by decide, fa_wide_le]
theorem q_wu5 {v : Int32} : v.toInt64 ≤ (5 : Int64) ↔ v ≤ 5 := by rw [show (5 : Int64) = Int32.toInt64 5 by decide, fa_wide_le]
theorem q_wu6 {v : Int32} : v.toInt64 ≤ (6 : Int64) ↔ v ≤ 6 := by rw [show (6 : Int64) = Int32.toInt64 6 by decide, fa_wide_le]
theorem q_wu7 {v : Int32} : v.toInt64 ≤ (7 : Int64) ↔ v ≤ 7 := by rw [show (7 : Int64) = Int32.toInt64 7 by decide, fa_wide_le]
theorem q_wu8 {v : Int32} : v.toInt64 ≤ (8 : Int64) ↔ v ≤ 8 := by rw [show (8 : Int64) = Int32.toInt64 8 by decide, fa_wide_le]
theorem q_wu15 {v : Int32} : v.toInt64 ≤ (15 : Int64) ↔ v ≤ 15 := by rw [show (15 : Int64) = Int32.toInt64 15 by decide, fa_wide_le]
theorem q_wu30 {v : Int32} : v.toInt64 ≤ (30 : Int64) ↔ v ≤ 30 := by rw [show (30 : Int64) = Int32.toInt64 30 by decide, fa_wide_le]
theorem q_wu40 {v : Int32} : v.toInt64 ≤ (40 : Int64) ↔ v ≤ 40 := by rw [show (40 : Int64) = Int32.toInt64 40 by decide, fa_wide_le]
theorem q_wu57 {v : Int32} : v.toInt64 ≤ (57 : Int64) ↔ v ≤ 57 := by rw [show (57 : Int64) = Int32.toInt64 57 by decide, fa_wide_le]
theorem q_wu60 {v : Int32} : v.toInt64 ≤ (60 : Int64) ↔ v ≤ 60 := by rw [show (60 : Int64) = Int32.toInt64 60 by decide, fa_wide_le]
theorem q_wu69 {v : Int32} : v.toInt64 ≤ (69 : Int64) ↔ v ≤ 69 := by rw [show (69 : Int64) = Int32.toInt64 69 by decide, fa_wide_le]
theorem q_wu99 {v : Int32} : v.toInt64 ≤ (99 : Int64) ↔ v ≤ 99 := by rw [show (99 : Int64) = Int32.toInt64 99 by decide, fa_wide_le]
theorem q_wu1584 {v : Int32} : v.toInt64 ≤ (1584 : Int64) ↔ v ≤ 1584 := by rw [show (1584 : Int64) = Int32.toInt64 1584 by decide, fa_wide_le]
theorem t_wetOfAll {d : Nat} {R : gR} {μ : gM} {k : Nat} (hk : gc_kd k = 0) (h2 : ∀ μ, gc_fv k 2 μ = .ref (k + 1)) (h3 : gc_kd (k + 1) = 20) (h4 : gc_al (k + 1) = 16) : gc_S (d + 1) 8 [.ref k] μ R ↔ R (some (.int (q_sum (μ (k + 1)) 16))) μ := by
  simp only [s8, u8_0, u8_1, u8_2, u8_3, u8_5, u8_7, u8_10, u8_11, u8_12, u8_15, u8_16, u8_17, u8_18, u8_19, u8_22, u8_25, u8_26, Option.toList, List.cons_append, List.nil_append, q_ski, q_skr, q_sku, if_true, if_false]
  refine q_loop (X := fun c => gc_W (gc_S d) cX0_wetOfAll 0 0 R 4 [.ref k, .int (q_sum (μ (k + 1)) c), .int (nI c)] [] μ) 16 (fun c hc => (u8_4).trans ?_) ?_
  · simp only [u8_0, u8_1, u8_2, u8_3, u8_5, u8_7, u8_10, u8_11, u8_12, u8_15, u8_16, u8_17, u8_18, u8_19, u8_22, u8_25, u8_26, q_nle hc (by decide) (show (16 : Int32) = nI 16 from rfl), hk, h2, h3, h4, vp_in_nI hc (by decide), true_and, nI_clamp (show c < 2 ^ 31 by omega), nI_1, q_sum, q_ski, q_skr, q_sku, if_false]
  · simp only [u8_0, u8_1, u8_2, u8_3, u8_4, u8_5, u8_7, u8_10, u8_11, u8_12, u8_15, u8_16, u8_17, u8_18, u8_19, u8_22, u8_25, u8_26, show (16 : Int32) ≤ nI 16 by decide, if_true]
