/-! foldings: the class -/
def q_dg (f j : Nat) : Nat := f / 10 ^ j % 10
def q_cA (f : Nat) : Nat → Nat
  | 0 => 0
  | j + 1 => q_cA f j + (if q_dg f j ≤ 2 then 1 else 0)
def q_cB (f : Nat) : Nat → Nat
  | 0 => 0
  | j + 1 => q_cB f j + (if q_dg f j ≤ 2 then 0 else 1)
/-- f folds k times, all well -/
def q_vf (f k : Nat) : Prop := k ≤ 4 ∧ 10 ^ k ≤ f ∧ f < 2 * 10 ^ k ∧ (∀ i, i < k → 1 ≤ q_dg f i ∧ q_dg f i ≤ 4) ∧ q_cA f k ≤ 2 ∧ q_cB f k ≤ 2
def q_fw (d h z : Nat) : Bool := decide (d % 2 = 1) == decide (z < h)
def q_fz (d h z : Nat) : Nat := (if q_fw d h z = true then 2 * h - 1 - z else z) - (if d % 2 = 1 then h else 0)
def q_fl (d h z t l : Nat) : Nat := if q_fw d h z = true then 2 * t - 1 - l else l
def q_f5 (d c r x y l : Nat) : Nat × Nat × Nat × Nat × Nat := if d ≤ 2 then (c / 2, r, q_fz d (c / 2) x, y, q_fl d (c / 2) x (16 / (c * r)) l) else (c, r / 2, x, q_fz d (r / 2) y, q_fl d (r / 2) y (16 / (c * r)) l)
def q_fd (f : Nat) : Nat → Nat × Nat × Nat × Nat × Nat → Nat × Nat × Nat × Nat × Nat
  | 0, s => s
  | j + 1, s => q_fd f j (q_f5 (q_dg f j) s.1 s.2.1 s.2.2.1 s.2.2.2.1 s.2.2.2.2)
def q_fe (f k cell : Nat) : Nat × Nat × Nat × Nat × Nat := q_fd f k (4, 4, cell % 4, cell / 4, 0)
/-- the pile it lies on, and its layer -/
def q_pil (s : Nat × Nat × Nat × Nat × Nat) : Nat := s.2.2.2.1 * s.1 + s.2.2.1
theorem q_cA_s {f j : Nat} : q_cA f (j + 1) = q_cA f j + (if q_dg f j ≤ 2 then 1 else 0) := rfl
theorem q_cB_s {f j : Nat} : q_cB f (j + 1) = q_cB f j + (if q_dg f j ≤ 2 then 0 else 1) := rfl
theorem q_fwo {d h z : Nat} (hd : d % 2 = 1) : q_fw d h z = decide (z < h) := by
  unfold q_fw; rw [decide_eq_true hd]; cases decide (z < h) <;> rfl
theorem q_fwe {d h z : Nat} (hd : ¬ d % 2 = 1) : q_fw d h z = !decide (z < h) := by
  unfold q_fw; rw [decide_eq_false hd]; cases decide (z < h) <;> rfl
/-- c columns or rows after n foldings -/
def q_cn (n c : Nat) : Prop := (n = 0 ∧ c = 4) ∨ (n = 1 ∧ c = 2) ∨ (n = 2 ∧ c = 1)
theorem q_cn_h {n c : Nat} (h : q_cn n c) (hc : ¬ c / 2 = 0) : q_cn (n + 1) (c / 2) ∧ c = 2 * (c / 2) := by
  rcases h with ⟨rfl, rfl⟩ | ⟨rfl, rfl⟩ | ⟨rfl, rfl⟩
  · exact ⟨.inr (.inl ⟨rfl, rfl⟩), rfl⟩
  · exact ⟨.inr (.inr ⟨rfl, rfl⟩), rfl⟩
  · exact absurd rfl hc
theorem q_cn_t {n m c r : Nat} (h : q_cn n c) (g : q_cn m r) : 1 ≤ 16 / (c * r) ∧ 16 / (c * r) ≤ 16 ∧ (¬ c / 2 = 0 → 16 / (c / 2 * r) = 16 / (c * r) * 2) ∧ (¬ r / 2 = 0 → 16 / (c * (r / 2)) = 16 / (c * r) * 2) ∧ 16 / (c * r) * (c * r) = 16 := by
  rcases h with ⟨rfl, rfl⟩ | ⟨rfl, rfl⟩ | ⟨rfl, rfl⟩ <;> rcases g with ⟨rfl, rfl⟩ | ⟨rfl, rfl⟩ | ⟨rfl, rfl⟩ <;> decide
theorem q_cn_4 {n c : Nat} (h : q_cn n c) : n ≤ 2 ∧ 1 ≤ c ∧ c ≤ 4 ∧ (c / 2 = 0 → n = 2) := by
  rcases h with ⟨rfl, rfl⟩ | ⟨rfl, rfl⟩ | ⟨rfl, rfl⟩ <;> decide
theorem q_p10 : ∀ a b, a < b → b ≤ 9 → 10 * 10 ^ a ≤ 10 ^ b := fun a b h _ => by
  have : 10 ^ (a + 1) ≤ 10 ^ b := Nat.pow_le_pow_right (by decide) h
  rw [Nat.pow_succ] at this; omega
theorem q_vf_k {f k k' : Nat} (h : k ≤ 4 ∧ 10 ^ k ≤ f ∧ f < 2 * 10 ^ k) (g : q_vf f k') : k' = k := by
  obtain ⟨g1, g2, g3, -⟩ := g
  obtain ⟨h1, h2, h3⟩ := h
  rcases Nat.lt_trichotomy k k' with e | e | e
  · have := q_p10 k k' e (by omega); omega
  · exact e.symm
  · have := q_p10 k' k e (by omega); omega

theorem q_f51t {c r x y l : Nat} (g : x < c / 2) : q_f5 1 c r x y l = (c / 2, r, 2 * (c / 2) - 1 - x - c / 2, y, 2 * (16 / (c * r)) - 1 - l) := by
  have e : q_fw 1 (c / 2) x = true := by rw [q_fwo (by decide), decide_eq_true g]
  unfold q_f5 q_fz q_fl
  rw [e]
  rfl

theorem q_f51f {c r x y l : Nat} (g : ¬ x < c / 2) : q_f5 1 c r x y l = (c / 2, r, x - c / 2, y, l) := by
  have e : q_fw 1 (c / 2) x = false := by rw [q_fwo (by decide), decide_eq_false g]
  unfold q_f5 q_fz q_fl
  rw [e]
  rfl

theorem q_f52t {c r x y l : Nat} (g : x < c / 2) : q_f5 2 c r x y l = (c / 2, r, x - 0, y, l) := by
  have e : q_fw 2 (c / 2) x = false := by rw [q_fwe (by decide), decide_eq_true g]; rfl
  unfold q_f5 q_fz q_fl
  rw [e]
  rfl

theorem q_f52f {c r x y l : Nat} (g : ¬ x < c / 2) : q_f5 2 c r x y l = (c / 2, r, 2 * (c / 2) - 1 - x - 0, y, 2 * (16 / (c * r)) - 1 - l) := by
  have e : q_fw 2 (c / 2) x = true := by rw [q_fwe (by decide), decide_eq_false g]; rfl
  unfold q_f5 q_fz q_fl
  rw [e]
  rfl

theorem q_f53t {c r x y l : Nat} (g : y < r / 2) : q_f5 3 c r x y l = (c, r / 2, x, 2 * (r / 2) - 1 - y - r / 2, 2 * (16 / (c * r)) - 1 - l) := by
  have e : q_fw 3 (r / 2) y = true := by rw [q_fwo (by decide), decide_eq_true g]
  unfold q_f5 q_fz q_fl
  rw [e]
  rfl

theorem q_f53f {c r x y l : Nat} (g : ¬ y < r / 2) : q_f5 3 c r x y l = (c, r / 2, x, y - r / 2, l) := by
  have e : q_fw 3 (r / 2) y = false := by rw [q_fwo (by decide), decide_eq_false g]
  unfold q_f5 q_fz q_fl
  rw [e]
  rfl

theorem q_f54t {c r x y l : Nat} (g : y < r / 2) : q_f5 4 c r x y l = (c, r / 2, x, y - 0, l) := by
  have e : q_fw 4 (r / 2) y = false := by rw [q_fwe (by decide), decide_eq_true g]; rfl
  unfold q_f5 q_fz q_fl
  rw [e]
  rfl

theorem q_f54f {c r x y l : Nat} (g : ¬ y < r / 2) : q_f5 4 c r x y l = (c, r / 2, x, 2 * (r / 2) - 1 - y - 0, 2 * (16 / (c * r)) - 1 - l) := by
  have e : q_fw 4 (r / 2) y = true := by rw [q_fwe (by decide), decide_eq_false g]; rfl
  unfold q_f5 q_fz q_fl
  rw [e]
  rfl

theorem t_firstUnit {d : Nat} {R : gR} {μ : gM} {p : Int32} (h1 : ∀ e, e ≤ 4 → ¬ p < nI (10 ^ e) → ¬ nI (2 * 10 ^ e) ≤ p → R (some (.int (nI (10 ^ e)))) μ) (h0 : (∀ e, e ≤ 4 → p < nI (10 ^ e) ∨ nI (2 * 10 ^ e) ≤ p) → R (some (.int 0)) μ) : gc_S (d + 1) 105 [.int p] μ R := by
  have main : ∀ m e, e + m = 5 → (∀ e', e' < e → p < nI (10 ^ e') ∨ nI (2 * 10 ^ e') ≤ p) → gc_W (gc_S (d)) cX11_firstUnit 11 0 R 2 [.int p, .int (nI (10 ^ e))] [] μ := by
    intro m
    induction m with
    | zero =>
      intro e he h
      obtain rfl : e = 5 := he
      refine (u105_2).mpr ?_
      simp only [u105_0, u105_1, u105_3, u105_6, u105_9, u105_10, u105_11, u105_14, u105_15, u105_16, u105_17, u105_18, u105_21, u105_22, u105_23, u105_24, u105_26, u105_27, u105_28, u105_31, u105_32, ly_kd, ly_al, ly_fv0, ly_fv1, ly_fv2, ly_fv3, ly_fv4, ly_fk, ly_ra, Option.toList, List.cons_append, List.nil_append, q_ski, q_skr, q_sku, if_true, if_false, show (10000 : Int32) < nI (10 ^ 5) by decide]
      exact h0 (fun e he => h e (by omega))
    | succ m ih =>
      intro e he h
      have le : 10 ^ e ≤ 10 ^ 4 := Nat.pow_le_pow_right (by decide) (by omega)
      have g1 : ¬ (10000 : Int32) < nI (10 ^ e) := Int32.not_lt.mpr (show nI (10 ^ e) ≤ nI (10 ^ 4) from nI_le le (by decide))
      have m2 : (2 : Int32) * nI (10 ^ e) = nI (2 * 10 ^ e) := pk_mul 2 _
      have m10 : nI (10 ^ e) * (10 : Int32) = nI (10 ^ (e + 1)) := by rw [show (10 : Int32) = nI 10 from rfl, pk_mul, Nat.pow_succ]
      refine (u105_2).mpr ?_
      by_cases a : p < nI (10 ^ e)
      · simp only [u105_0, u105_1, u105_3, u105_6, u105_9, u105_10, u105_11, u105_14, u105_15, u105_16, u105_17, u105_18, u105_21, u105_22, u105_23, u105_24, u105_26, u105_27, u105_28, u105_31, u105_32, ly_kd, ly_al, ly_fv0, ly_fv1, ly_fv2, ly_fv3, ly_fv4, ly_fk, ly_ra, Option.toList, List.cons_append, List.nil_append, q_ski, q_skr, q_sku, if_true, if_false, g1, a, m10]
        exact ih (e + 1) (by omega) (fun e' he' => by
          by_cases z : e' = e
          · rw [z]; exact .inl a
          · exact h e' (by omega))
      · by_cases b : nI (2 * 10 ^ e) ≤ p
        · simp only [u105_0, u105_1, u105_3, u105_6, u105_9, u105_10, u105_11, u105_14, u105_15, u105_16, u105_17, u105_18, u105_21, u105_22, u105_23, u105_24, u105_26, u105_27, u105_28, u105_31, u105_32, ly_kd, ly_al, ly_fv0, ly_fv1, ly_fv2, ly_fv3, ly_fv4, ly_fk, ly_ra, Option.toList, List.cons_append, List.nil_append, q_ski, q_skr, q_sku, if_true, if_false, g1, a, m2, b, m10]
          exact ih (e + 1) (by omega) (fun e' he' => by
            by_cases z : e' = e
            · rw [z]; exact .inr b
            · exact h e' (by omega))
        · simp only [u105_0, u105_1, u105_3, u105_6, u105_9, u105_10, u105_11, u105_14, u105_15, u105_16, u105_17, u105_18, u105_21, u105_22, u105_23, u105_24, u105_26, u105_27, u105_28, u105_31, u105_32, ly_kd, ly_al, ly_fv0, ly_fv1, ly_fv2, ly_fv3, ly_fv4, ly_fk, ly_ra, Option.toList, List.cons_append, List.nil_append, q_ski, q_skr, q_sku, if_true, if_false, g1, a, m2, b]
          exact h1 e (by omega) a b
  simp only [s105, u105_0, u105_1, u105_3, u105_6, u105_9, u105_10, u105_11, u105_14, u105_15, u105_16, u105_17, u105_18, u105_21, u105_22, u105_23, u105_24, u105_26, u105_27, u105_28, u105_31, u105_32, ly_kd, ly_al, ly_fv0, ly_fv1, ly_fv2, ly_fv3, ly_fv4, ly_fk, ly_ra, Option.toList, List.cons_append, List.nil_append, q_ski, q_skr, q_sku, if_true, if_false]
  exact main 5 0 rfl (fun e' he' => absurd he' (by omega))
theorem q_lt31 {f k : Nat} (hk : k ≤ 4) (h : f < 2 * 10 ^ k) : f < 20000 := by
  have : 10 ^ k ≤ 10 ^ 4 := Nat.pow_le_pow_right (by decide) hk
  omega
