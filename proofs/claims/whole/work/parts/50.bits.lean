/-! rows pasted from kit/laws: bits of an Int32, whole numbers within bounds -/
/-! ===== Int32 by its bits: bt x i ===== -/
def bt (x : Int32) (i : Nat) : Bool := x.toBitVec.getLsbD i
theorem b_ext {x y : Int32} (h : ∀ i, i < 32 → bt x i = bt y i) : x = y := Int32.toBitVec_inj.mp (BitVec.eq_of_getLsbD_eq (fun i hi => h i hi))
theorem b_or (x y : Int32) (i : Nat) : bt (x ||| y) i = (bt x i || bt y i) := by unfold bt; rw [Int32.toBitVec_or, BitVec.getLsbD_or]
theorem b_and (x y : Int32) (i : Nat) : bt (x &&& y) i = (bt x i && bt y i) := by unfold bt; rw [Int32.toBitVec_and, BitVec.getLsbD_and]
theorem b_xor (x y : Int32) (i : Nat) : bt (x ^^^ y) i = (bt x i ^^ bt y i) := by unfold bt; rw [Int32.toBitVec_xor, BitVec.getLsbD_xor]
theorem b_big {x : Int32} {i : Nat} (h : 32 ≤ i) : bt x i = false := BitVec.getLsbD_of_ge _ _ h
theorem b_255 (i : Nat) : bt 255 i = decide (i < 8) := by
  rcases Nat.lt_or_ge i 32 with h | h
  · exact (by decide +kernel : ∀ i, i < 32 → bt 255 i = decide (i < 8)) i h
  · rw [b_big h, decide_eq_false (by omega)]
theorem b_65535 (i : Nat) : bt 65535 i = decide (i < 16) := by
  rcases Nat.lt_or_ge i 32 with h | h
  · exact (by decide +kernel : ∀ i, i < 32 → bt 65535 i = decide (i < 16)) i h
  · rw [b_big h, decide_eq_false (by omega)]
theorem b_m1 : ∀ i, i < 32 → bt (-1) i = true := by decide +kernel
theorem b_0 (i : Nat) : bt 0 i = false := BitVec.getLsbD_zero
theorem s_l : ∀ n, n < 32 → ((nI n &&& 31).toBitVec.smod 32).toNat = n := by decide +kernel
theorem s_u : ∀ n, n < 32 → (((nI n).toUInt32 &&& Int32.toUInt32 31).toBitVec % 32).toNat = n := by decide +kernel
theorem b_shl (n : Nat) (hn : n < 32) (x : Int32) {i : Nat} (hi : i < 32) : bt (x <<< (nI n &&& 31)) i = (decide (n ≤ i) && bt x (i - n)) := by
  unfold bt
  rw [Int32.toBitVec_shiftLeft]
  show (x.toBitVec <<< ((nI n &&& 31).toBitVec.smod 32).toNat).getLsbD i = _
  rw [s_l n hn, BitVec.getLsbD_shiftLeft]
  rcases Nat.lt_or_ge i n with h | h
  · simp [h, Nat.not_le.mpr h]
  · simp [hi, h, Nat.not_lt.mpr h]
theorem b_ushr (n : Nat) (hn : n < 32) (x : Int32) (i : Nat) : bt ((x.toUInt32 >>> ((nI n).toUInt32 &&& Int32.toUInt32 31)).toInt32) i = bt x (n + i) := by
  show (x.toUInt32 >>> ((nI n).toUInt32 &&& Int32.toUInt32 31)).toBitVec.getLsbD i = x.toUInt32.toBitVec.getLsbD (n + i)
  rw [UInt32.toBitVec_shiftRight]
  show (x.toUInt32.toBitVec >>> (((nI n).toUInt32 &&& Int32.toUInt32 31).toBitVec % 32).toNat).getLsbD i = _
  rw [s_u n hn, BitVec.getLsbD_ushiftRight]
theorem b_sshr (n : Nat) (hn : n < 32) (x : Int32) {i : Nat} (hi : i < 32) : bt (x >>> (nI n &&& 31)) i = if n + i < 32 then bt x (n + i) else bt x 31 := by
  unfold bt
  rw [Int32.toBitVec_shiftRight]
  show (x.toBitVec.sshiftRight ((nI n &&& 31).toBitVec.smod 32).toNat).getLsbD i = _
  rw [s_l n hn, BitVec.getLsbD_sshiftRight, BitVec.msb_eq_getLsbD_last]
  simp [hi]
theorem b_shl8 (x : Int32) {i : Nat} (hi : i < 32) : bt (x <<< ((8 : Int32) &&& 31)) i = (decide (8 ≤ i) && bt x (i - 8)) := b_shl 8 (by omega) x hi
theorem b_shl16 (x : Int32) {i : Nat} (hi : i < 32) : bt (x <<< ((16 : Int32) &&& 31)) i = (decide (16 ≤ i) && bt x (i - 16)) := b_shl 16 (by omega) x hi
theorem b_shl24 (x : Int32) {i : Nat} (hi : i < 32) : bt (x <<< ((24 : Int32) &&& 31)) i = (decide (24 ≤ i) && bt x (i - 24)) := b_shl 24 (by omega) x hi
theorem b_sshr8 (x : Int32) {i : Nat} (hi : i < 32) : bt (x >>> ((8 : Int32) &&& 31)) i = if 8 + i < 32 then bt x (8 + i) else bt x 31 := b_sshr 8 (by omega) x hi
/-! ===== nI under and, xor, >>>, one bit, 65535 ===== -/
theorem nx_and (a b : Nat) : nI a &&& nI b = nI (a &&& b) := by
  apply Int32.toBitVec_inj.1
  show BitVec.ofNat 32 a &&& BitVec.ofNat 32 b = BitVec.ofNat 32 (a &&& b)
  apply BitVec.eq_of_getLsbD_eq
  intro i hi
  simp [hi]
theorem nx_xor (a b : Nat) : nI a ^^^ nI b = nI (a ^^^ b) := by
  apply Int32.toBitVec_inj.1
  show BitVec.ofNat 32 a ^^^ BitVec.ofNat 32 b = BitVec.ofNat 32 (a ^^^ b)
  apply BitVec.eq_of_getLsbD_eq
  intro i hi
  simp [hi]
theorem nx_cnt : ∀ j : Fin 32, (UInt32.ofNat j.val &&& Int32.toUInt32 31).toNat % 32 = j.val := by decide +kernel
theorem nx_ush {k j : Nat} (hk : k < 65536) (hj : j < 32) : ((nI k).toUInt32 >>> ((nI j).toUInt32 &&& Int32.toUInt32 31)).toInt32 = nI (k >>> j) := by
  have hs : k >>> j ≤ k := by
    rw [Nat.shiftRight_eq_div_pow]
    exact Nat.div_le_self _ _
  have e2 : UInt32.ofNat k >>> (UInt32.ofNat j &&& Int32.toUInt32 31) = UInt32.ofNat (k >>> j) := by
    apply UInt32.toNat_inj.1
    have h1 : (UInt32.ofNat k).toNat = k := Nat.mod_eq_of_lt (by omega)
    have h2 : (UInt32.ofNat (k >>> j)).toNat = k >>> j := Nat.mod_eq_of_lt (by omega)
    rw [UInt32.toNat_shiftRight, nx_cnt ⟨j, hj⟩, h1, h2]
  show (UInt32.ofNat k >>> (UInt32.ofNat j &&& Int32.toUInt32 31)).toInt32 = _
  rw [e2]
  rfl
theorem nx_bit {k j : Nat} (hk : k < 65536) (hj : j < 16) : (((nI k).toUInt32 >>> ((nI j).toUInt32 &&& Int32.toUInt32 31)).toInt32 &&& 1) = 0 ↔ k.testBit j = false := by
  rw [nx_ush hk (by omega)]
  show nI (k >>> j) &&& nI 1 = 0 ↔ _
  rw [nx_and, Nat.and_one_is_mod, ← nI_0, nI_eq (by omega) (by omega), Nat.testBit_eq_decide_div_mod_eq, Nat.shiftRight_eq_div_pow, decide_eq_false_iff_not]
  generalize k / 2 ^ j = z
  omega
theorem nx_mod (k : Nat) : nI k &&& 65535 = nI (k % 65536) := by
  show nI k &&& nI 65535 = _
  rw [nx_and, show (65535 : Nat) = 2 ^ 16 - 1 from rfl, Nat.and_two_pow_sub_one_eq_mod]
theorem nx_m16 {k : Nat} (h : k < 65536) : nI k &&& 65535 = nI k := by rw [nx_mod, Nat.mod_eq_of_lt h]
theorem nx_mask (x : Int32) : ∃ k, k < 65536 ∧ x &&& 65535 = nI k := by
  have e : x = nI x.toBitVec.toNat := by
    apply Int32.toBitVec_inj.1
    show x.toBitVec = BitVec.ofNat 32 x.toBitVec.toNat
    simp
  refine ⟨x.toBitVec.toNat % 65536, Nat.mod_lt _ (by omega), ?_⟩
  rw [← nx_mod, ← e]
/-! ===== signed ints as whole numbers, within bounds ===== -/
theorem fb_rng (x : Int32) : -2147483648 ≤ x.toInt ∧ x.toInt < 2147483648 := by
  have h1 := Int32.le_toInt x
  have h2 := Int32.toInt_lt x
  omega
theorem fb_bmod {z : Int} (h1 : -2147483648 ≤ z) (h2 : z < 2147483648) : z.bmod (2 ^ 32) = z := by
  rw [Int.bmod_eq_of_le (by omega) (by omega)]
theorem fb_addI {x y : Int32} (h1 : -2147483648 ≤ x.toInt + y.toInt) (h2 : x.toInt + y.toInt < 2147483648) : (x + y).toInt = x.toInt + y.toInt := by
  rw [Int32.toInt_add, fb_bmod h1 h2]
theorem fb_subI {x y : Int32} (h1 : -2147483648 ≤ x.toInt - y.toInt) (h2 : x.toInt - y.toInt < 2147483648) : (x - y).toInt = x.toInt - y.toInt := by
  rw [Int32.toInt_sub, fb_bmod h1 h2]
theorem fb_mulI {x y : Int32} (h1 : -2147483648 ≤ x.toInt * y.toInt) (h2 : x.toInt * y.toInt < 2147483648) : (x * y).toInt = x.toInt * y.toInt := by
  rw [Int32.toInt_mul, fb_bmod h1 h2]
theorem fb_negI {x : Int32} (h : x.toInt ≠ -2147483648) : (-x).toInt = -x.toInt := by
  have := fb_rng x
  rw [Int32.toInt_neg, fb_bmod (by omega) (by omega)]
theorem fb_ofI {z : Int} (h1 : -2147483648 ≤ z) (h2 : z < 2147483648) : (Int32.ofInt z).toInt = z := by
  rw [Int32.toInt_ofInt, fb_bmod h1 h2]
theorem fb_asI (x : Int32) : Int32.ofInt x.toInt = x := Int32.ofInt_toInt x

/-! sets of cells by their bits -/
theorem b_one : ∀ i, i < 32 → bt 1 i = decide (i = 0) := by decide +kernel
theorem b_nI {n i : Nat} (hi : i < 32) : bt (nI n) i = n.testBit i := by
  unfold bt
  show (BitVec.ofNat 32 n).getLsbD i = _
  rw [BitVec.getLsbD_ofNat]
  simp [hi]
theorem b_not {x : Int32} {i : Nat} (hi : i < 32) : bt (x ^^^ -1) i = !bt x i := by
  rw [b_xor, b_m1 i hi]; simp
theorem b_sh1 {n i : Nat} (hn : n < 32) (hi : i < 32) : bt ((1 : Int32) <<< (nI n &&& 31)) i = decide (i = n) := by
  rw [b_shl n hn _ hi]
  by_cases h : n ≤ i
  · rw [b_one (i - n) (by omega)]
    by_cases e : i = n
    · subst e; simp
    · have : ¬ i - n = 0 := by omega
      simp [e, this]
  · have : ¬ i = n := by omega
    simp [h, this]
theorem q_set_bt {p : Nat → Bool} : ∀ n, n ≤ 32 → ∀ i, i < 32 → bt (q_set p n) i = (decide (i < n) && p i)
  | 0, _, i, _ => by
    show bt 0 i = _
    rw [b_0]; simp
  | n + 1, h, i, hi => by
    show bt (q_set p n ||| (if p n then (1 : Int32) <<< (nI n &&& 31) else 0)) i = _
    rw [b_or, q_set_bt n (by omega) i hi]
    by_cases hp : p n = true
    · rw [if_pos hp, b_sh1 (by omega) hi]
      by_cases e : i = n
      · subst e; simp [hp]
      · have : (i < n + 1) ↔ i < n := by omega
        simp [e, this]
    · rw [if_neg hp, b_0]
      by_cases e : i = n
      · subst e
        have : p i = false := by simpa using hp
        simp [this]
      · have : (i < n + 1) ↔ i < n := by omega
        simp [this]
theorem q_set_cong {p q : Nat → Bool} : ∀ {n : Nat}, (∀ c, c < n → p c = q c) → q_set p n = q_set q n
  | 0, _ => rfl
  | n + 1, h => by
    show q_set p n ||| _ = q_set q n ||| _
    rw [q_set_cong (n := n) (fun c hc => h c (by omega)), h n (by omega)]
theorem q_set_of {x : Int32} (h : ∀ i, 16 ≤ i → i < 32 → bt x i = false) : x = q_set (bt x) 16 := b_ext (fun i hi => by
  rw [q_set_bt 16 (by omega) i hi]
  by_cases e : i < 16
  · simp [e]
  · rw [h i (by omega) hi]; simp [e])
theorem q_set_eq {x : Int32} {p : Nat → Bool} {n : Nat} (hn : n ≤ 32) (h : ∀ i, i < 32 → bt x i = (decide (i < n) && p i)) : x = q_set p n := b_ext (fun i hi => by rw [q_set_bt n hn i hi]; exact h i hi)
theorem q_bit1 {x : Int32} {c : Nat} (hc : c < 32) : (x >>> (nI c &&& 31)) &&& 1 = if bt x c = true then 1 else 0 := b_ext (fun i hi => by
  rw [b_and, b_one i hi]
  by_cases e : i = 0
  · subst e
    rw [b_sshr c hc x hi, Nat.add_zero, if_pos hc]
    by_cases hb : bt x c = true
    · rw [hb, if_pos rfl, b_one 0 (by omega)]; simp
    · rw [if_neg hb, b_0]; simp [hb]
  · by_cases hb : bt x c = true
    · rw [if_pos hb, b_one i hi]; simp [e]
    · rw [if_neg hb, b_0]; simp [e])
theorem q_bit2 {x : Int32} {a b : Nat} (ha : a < 32) (hb : b < 32) : (x >>> (nI a &&& 31) ||| x >>> (nI b &&& 31)) &&& 1 = if (bt x a || bt x b) = true then 1 else 0 := b_ext (fun i hi => by
  rw [b_and, b_one i hi, b_or]
  by_cases e : i = 0
  · subst e
    rw [b_sshr a ha x hi, b_sshr b hb x hi, Nat.add_zero, Nat.add_zero, if_pos ha, if_pos hb]
    by_cases h : (bt x a || bt x b) = true
    · rw [h, if_pos rfl, b_one 0 (by omega)]; simp
    · rw [if_neg h, b_0]; simp only [Bool.not_eq_true] at h; simp [h]
  · by_cases h : (bt x a || bt x b) = true
    · rw [if_pos h, b_one i hi]; simp [e]
    · rw [if_neg h, b_0]; simp [e])
theorem q_bit1z {x : Int32} {c : Nat} (hc : c < 32) : (x >>> (nI c &&& 31)) &&& 1 = 0 ↔ bt x c = false := by
  rw [q_bit1 hc]
  by_cases hb : bt x c = true
  · rw [if_pos hb, hb]; exact ⟨fun h => absurd h (by decide), fun h => by cases h⟩
  · rw [if_neg hb]; simp [hb]
theorem q_bit1o {x : Int32} {c : Nat} (hc : c < 32) : (x >>> (nI c &&& 31)) &&& 1 = 1 ↔ bt x c = true := by
  rw [q_bit1 hc]
  by_cases hb : bt x c = true
  · rw [if_pos hb, hb]; simp
  · rw [if_neg hb]; simp [hb]
theorem q_bit2o {x : Int32} {a b : Nat} (ha : a < 32) (hb : b < 32) : (x >>> (nI a &&& 31) ||| x >>> (nI b &&& 31)) &&& 1 = 1 ↔ (bt x a = true ∨ bt x b = true) := by
  rw [q_bit2 ha hb, ← Bool.or_eq_true]
  by_cases h : (bt x a || bt x b) = true
  · rw [if_pos h]; simp [h]
  · rw [if_neg h]; simp [h]
/-! how many bits -/
def q_num (p : Nat → Bool) : Nat → Nat
  | 0 => 0
  | n + 1 => 2 ^ n * (if p n then 1 else 0) + q_num p n
theorem q_num_lt {p : Nat → Bool} : ∀ n, q_num p n < 2 ^ n
  | 0 => Nat.one_pos
  | n + 1 => by
    have ih := q_num_lt (p := p) n
    unfold q_num
    have : 2 ^ (n + 1) = 2 ^ n + 2 ^ n := by rw [Nat.pow_succ]; omega
    by_cases h : p n = true
    · rw [if_pos h]; omega
    · rw [if_neg h]; omega
theorem q_num_tb {p : Nat → Bool} : ∀ n i, (q_num p n).testBit i = (decide (i < n) && p i)
  | 0, i => by
    show Nat.testBit 0 i = _
    simp
  | n + 1, i => by
    have ih := q_num_tb (p := p) n
    have hl := q_num_lt (p := p) n
    unfold q_num
    by_cases h : p n = true
    · rw [if_pos h, Nat.mul_one]
      by_cases e : i = n
      · subst e
        rw [Nat.testBit_two_pow_add_eq, ih i]; simp [h]
      · by_cases e2 : i < n
        · rw [Nat.testBit_two_pow_add_gt e2, ih i]
          have : i < n + 1 := by omega
          simp [e2, this]
        · have : 2 ^ n + q_num p n < 2 ^ i := by
            have h1 : 2 ^ (n + 1) ≤ 2 ^ i := Nat.pow_le_pow_right (by decide) (by omega)
            have h2 : 2 ^ (n + 1) = 2 ^ n + 2 ^ n := by rw [Nat.pow_succ]; omega
            omega
          rw [Nat.testBit_lt_two_pow this]
          have : ¬ i < n + 1 := by omega
          simp [this]
    · rw [if_neg h, Nat.mul_zero, Nat.zero_add, ih i]
      by_cases e : i = n
      · subst e
        have : p i = false := by simpa using h
        simp [this]
      · have : (i < n + 1) ↔ i < n := by omega
        simp [this]
theorem q_set_num {p : Nat → Bool} {n : Nat} (hn : n ≤ 32) : q_set p n = nI (q_num p n) := b_ext (fun i hi => by rw [q_set_bt n hn i hi, b_nI hi, q_num_tb])
theorem q_ct_cong {p q : Nat → Bool} : ∀ {n : Nat}, (∀ c, c < n → p c = q c) → q_ct p n = q_ct q n
  | 0, _ => rfl
  | n + 1, h => by
    show q_ct p n + _ = q_ct q n + _
    rw [q_ct_cong (n := n) (fun c hc => h c (by omega)), h n (by omega)]
def q_F (n : Nat) : Nat :=
  let a := n - (n / 2 &&& 1431655765)
  let b := (a &&& 858993459) + (a / 4 &&& 858993459)
  let c := (b + b / 16) &&& 252645135
  let e := c + c / 256
  (e + e / 65536) &&& 63
theorem q_blk (x y : Nat) : x &&& y = 256 * ((x / 256) &&& (y / 256)) + ((x % 256) &&& (y % 256)) := by
  have h1 : (x &&& y) / 256 = (x / 256) &&& (y / 256) := by
    have := Nat.shiftRight_and_distrib (a := x) (b := y) (i := 8)
    rw [Nat.shiftRight_eq_div_pow, Nat.shiftRight_eq_div_pow, Nat.shiftRight_eq_div_pow] at this
    exact this
  have h2 : (x &&& y) % 256 = (x % 256) &&& (y % 256) := Nat.and_mod_two_pow (n := 8)
  rw [← h1, ← h2]
  exact (Nat.div_add_mod _ _).symm
theorem q_bk1 : ∀ a, a < 256 → (a / 2 &&& 5592405) = (a / 2 &&& 85) := by decide +kernel
theorem q_bk2 : ∀ e, e < 2 → ∀ b, b < 256 → (128 * e + b / 2) &&& 85 = (b / 2 &&& 85) := by decide +kernel
theorem q_bk3 : ∀ a, a < 256 → (a &&& 3355443) = (a &&& 51) ∧ (a / 4 &&& 3355443) = (a / 4 &&& 51) := by decide +kernel
theorem q_bk4 : ∀ e, e < 4 → ∀ b, b < 256 → (64 * e + b / 4) &&& 51 = (b / 4 &&& 51) := by decide +kernel
theorem q_bk5 : ∀ x, x < 256 → (x &&& 986895) = x % 16 ∧ (x &&& 15) = x % 16 := by decide +kernel
def q_f1 (a : Nat) : Nat := a - (a / 2 &&& 85)
def q_f2b (a : Nat) : Nat := (a &&& 51) + (a / 4 &&& 51)
theorem q_bk6 : ∀ a, a < 256 → q_f1 a < 256 ∧ q_f2b (q_f1 a) / 16 ≤ 4 ∧ q_f2b (q_f1 a) % 16 ≤ 4 ∧ q_f2b (q_f1 a) / 16 + q_f2b (q_f1 a) % 16 = q_ct (fun i => a.testBit i) 8 := by decide +kernel
theorem q_ct_16 {a b : Nat} (hb : b < 256) : q_ct (fun i => (256 * a + b).testBit i) 16 = q_ct (fun i => b.testBit i) 8 + q_ct (fun i => a.testBit i) 8 := by
  have h : ∀ j, (256 * a + b).testBit j = if j < 8 then b.testBit j else a.testBit (j - 8) := fun j => Nat.testBit_two_pow_mul_add a (i := 8) hb j
  simp only [q_ct, h]
  simp
  omega
theorem q_F_n {n : Nat} (h : n < 65536) : q_F n = q_ct (fun i => n.testBit i) 16 := by
  obtain ⟨a, b, ha, hb, rfl⟩ : ∃ a b, a < 256 ∧ b < 256 ∧ n = 256 * a + b := ⟨n / 256, n % 256, by omega, by omega, by omega⟩
  rw [q_ct_16 hb]
  obtain ⟨a1, a2, a3, a4⟩ := q_bk6 a ha
  obtain ⟨b1, b2, b3, b4⟩ := q_bk6 b hb
  rw [← a4, ← b4]
  unfold q_F
  have s1 : (256 * a + b) - ((256 * a + b) / 2 &&& 1431655765) = 256 * q_f1 a + q_f1 b := by
    rw [q_blk, show (256 * a + b) / 2 / 256 = a / 2 by omega, show (256 * a + b) / 2 % 256 = 128 * (a % 2) + b / 2 by omega]
    rw [show 1431655765 / 256 = 5592405 from rfl, show 1431655765 % 256 = 85 from rfl, q_bk1 a ha, q_bk2 _ (Nat.mod_lt _ (by decide)) b hb]
    have k1 : a / 2 &&& 85 ≤ a := Nat.le_trans Nat.and_le_left (Nat.div_le_self _ _)
    have k2 : b / 2 &&& 85 ≤ b := Nat.le_trans Nat.and_le_left (Nat.div_le_self _ _)
    unfold q_f1
    omega
  rw [s1]
  generalize q_f1 a = A at *
  generalize q_f1 b = B at *
  have s2 : (256 * A + B &&& 858993459) + ((256 * A + B) / 4 &&& 858993459) = 256 * q_f2b A + q_f2b B := by
    rw [q_blk, q_blk ((256 * A + B) / 4), show (256 * A + B) / 256 = A by omega, show (256 * A + B) % 256 = B by omega, show (256 * A + B) / 4 / 256 = A / 4 by omega, show (256 * A + B) / 4 % 256 = 64 * (A % 4) + B / 4 by omega]
    rw [show 858993459 / 256 = 3355443 from rfl, show 858993459 % 256 = 51 from rfl, (q_bk3 A a1).1, (q_bk3 A a1).2, q_bk4 _ (Nat.mod_lt _ (by decide)) B b1]
    unfold q_f2b
    omega
  dsimp only
  rw [s2]
  clear s1 s2 a4 b4
  generalize q_f2b A = P at *
  generalize q_f2b B = Q at *
  obtain ⟨p1, p0, hp1, hp0, hP⟩ : ∃ p1 p0, p1 ≤ 4 ∧ p0 ≤ 4 ∧ P = 16 * p1 + p0 := ⟨P / 16, P % 16, a2, a3, by omega⟩
  obtain ⟨q1, q0, hq1, hq0, hQ⟩ : ∃ q1 q0, q1 ≤ 4 ∧ q0 ≤ 4 ∧ Q = 16 * q1 + q0 := ⟨Q / 16, Q % 16, b2, b3, by omega⟩
  have x1 : P / 16 = p1 := by omega
  have x2 : P % 16 = p0 := by omega
  have x3 : Q / 16 = q1 := by omega
  have x4 : Q % 16 = q0 := by omega
  rw [x1, x2, x3, x4]
  have s3 : (256 * P + Q + (256 * P + Q) / 16) &&& 252645135 = 256 * (p1 + p0) + (q1 + q0) := by
    rw [q_blk, show 252645135 / 256 = 986895 from rfl, show 252645135 % 256 = 15 from rfl]
    have e1 : (256 * P + Q + (256 * P + Q) / 16) / 256 = 17 * p1 + p0 := by omega
    have e2 : (256 * P + Q + (256 * P + Q) / 16) % 256 = 16 * (p0 + q1) + (q1 + q0) := by omega
    rw [e1, e2, (q_bk5 _ (by omega)).1, (q_bk5 _ (by omega)).2, show (17 * p1 + p0) % 16 = p1 + p0 by clear e1 e2; omega, show (16 * (p0 + q1) + (q1 + q0)) % 16 = q1 + q0 by clear e1 e2; omega]
  rw [s3]
  have e3 : ∀ x, x &&& 63 = x % 64 := fun x => Nat.and_two_pow_sub_one_eq_mod x 6
  rw [e3]
  clear s3
  have f1 : (256 * (p1 + p0) + (q1 + q0)) / 256 = p1 + p0 := by omega
  rw [f1]
  have f2 : (256 * (p1 + p0) + (q1 + q0) + (p1 + p0)) / 65536 = 0 := by omega
  rw [f2]
  omega
theorem q_ul (n k m : Nat) (hm : 2 ^ k = m) (h : n < 2 ^ 32) (hk : k < 32) : ((nI n).toUInt32 >>> ((nI k).toUInt32 &&& Int32.toUInt32 31)).toInt32 = nI (n / m) := by rw [← hm]; exact pk_ushrN h _ k (s_u k hk)
theorem t_bitCountN {d : Nat} {R : gR} {μ : gM} {n : Nat} (h : n < 65536) : gc_S (d + 1) 30 [.int (nI n)] μ R ↔ R (some (.int (nI (q_F n)))) μ := by
  simp only [s30, u30_0, u30_1, u30_2, u30_3, u30_4, u30_7, u30_8, u30_9, u30_10, u30_11, u30_14, u30_15, u30_16, u30_17, u30_18, u30_21, u30_22, u30_23, u30_24, u30_25, u30_26, u30_27, u30_28, u30_29, u30_32, u30_33, u30_34, u30_35, u30_36, u30_38, u30_39, u30_40, u30_41, u30_42, u30_43, u30_45, u30_46, u30_47, u30_48, u30_49, u30_51, u30_52, Option.toList, List.cons_append, List.nil_append, q_ski, q_skr, q_sku, if_true, if_false]
  have k1 : n / 2 &&& 1431655765 ≤ n := Nat.le_trans Nat.and_le_left (Nat.div_le_self _ _)
  rw [show (1 : Int32) = nI 1 from rfl, show (2 : Int32) = nI 2 from rfl, show (4 : Int32) = nI 4 from rfl, show (8 : Int32) = nI 8 from rfl, show (16 : Int32) = nI 16 from rfl, show (1431655765 : Int32) = nI 1431655765 from rfl, show (858993459 : Int32) = nI 858993459 from rfl, show (252645135 : Int32) = nI 252645135 from rfl, show (63 : Int32) = nI 63 from rfl]
  have ha : n - (n / 2 &&& 1431655765) < 65536 := by omega
  have hb : ∀ a, a < 65536 → (a &&& 858993459) + (a / 4 &&& 858993459) < 131072 := by
    intro a ha
    have h1 : a &&& 858993459 ≤ a := Nat.and_le_left
    have h2 : a / 4 &&& 858993459 ≤ a / 4 := Nat.and_le_left
    omega
  have hc : ∀ b, b < 131072 → (b + b / 16) &&& 252645135 < 262144 := by
    intro b hb
    have h1 : (b + b / 16) &&& 252645135 ≤ b + b / 16 := Nat.and_le_left
    omega
  have hb := hb _ ha
  have hc := hc _ hb
  have eF : q_F n = ((((((n - (n / 2 &&& 1431655765)) &&& 858993459) + ((n - (n / 2 &&& 1431655765)) / 4 &&& 858993459)) + (((n - (n / 2 &&& 1431655765)) &&& 858993459) + ((n - (n / 2 &&& 1431655765)) / 4 &&& 858993459)) / 16) &&& 252645135) + (((((n - (n / 2 &&& 1431655765)) &&& 858993459) + ((n - (n / 2 &&& 1431655765)) / 4 &&& 858993459)) + (((n - (n / 2 &&& 1431655765)) &&& 858993459) + ((n - (n / 2 &&& 1431655765)) / 4 &&& 858993459)) / 16) &&& 252645135) / 256 + ((((((n - (n / 2 &&& 1431655765)) &&& 858993459) + ((n - (n / 2 &&& 1431655765)) / 4 &&& 858993459)) + (((n - (n / 2 &&& 1431655765)) &&& 858993459) + ((n - (n / 2 &&& 1431655765)) / 4 &&& 858993459)) / 16) &&& 252645135) + (((((n - (n / 2 &&& 1431655765)) &&& 858993459) + ((n - (n / 2 &&& 1431655765)) / 4 &&& 858993459)) + (((n - (n / 2 &&& 1431655765)) &&& 858993459) + ((n - (n / 2 &&& 1431655765)) / 4 &&& 858993459)) / 16) &&& 252645135) / 256) / 65536) &&& 63 := rfl
  rw [q_ul n 1 2 rfl (by omega) (by omega), nx_and, pk_sub k1]
  generalize n - (n / 2 &&& 1431655765) = a at *
  rw [q_ul a 2 4 rfl (by omega) (by omega), nx_and, nx_and, nI_add]
  generalize (a &&& 858993459) + (a / 4 &&& 858993459) = b at *
  rw [q_ul b 4 16 rfl (by omega) (by omega), nI_add, nx_and]
  generalize (b + b / 16) &&& 252645135 = c at *
  rw [q_ul c 8 256 rfl (by omega) (by omega), nI_add, q_ul (c + c / 256) 16 65536 rfl (by omega) (by omega), nI_add, nx_and, eF]
theorem t_bitCount {d : Nat} {R : gR} {μ : gM} {p : Nat → Bool} : gc_S (d + 1) 30 [.int (q_set p 16)] μ R ↔ R (some (.int (nI (q_ct p 16)))) μ := by
  rw [q_set_num (by omega), t_bitCountN (q_num_lt 16), q_F_n (q_num_lt 16), q_ct_cong (q := p) (fun c hc => by rw [q_num_tb]; simp [hc])]
