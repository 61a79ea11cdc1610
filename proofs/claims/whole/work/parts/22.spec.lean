/-! what a YEAR does, in words of the reference's row D -/
def q_hd (v : Int32) : Int32 := if v < 0 then 0 else if 99 < v then 99 else v
def q_adj (i j : Nat) : Bool := (Nat.beq (i / 4) (j / 4) && (Nat.beq (i + 1) j || Nat.beq (j + 1) i)) || Nat.beq (i + 4) j || Nat.beq (j + 4) i
def q_ct (p : Nat → Bool) : Nat → Nat
  | 0 => 0
  | n + 1 => q_ct p n + (if p n then 1 else 0)
def q_set (p : Nat → Bool) : Nat → Int32
  | 0 => 0
  | n + 1 => q_set p n ||| (if p n then (1 : Int32) <<< (nI n &&& 31) else 0)
def q_or (f : Nat → Int32) : Nat → Int32
  | 0 => 0
  | n + 1 => q_or f n ||| f n
def q_wp (kind m s : Int32) : Int32 :=
  if kind = 1 then 2 * (s / 4 + 1) else if kind = 2 then q_hd (s / 4 + 1 - 3) else if kind = 3 then (if s < 50 then 0 else s / 4 + 1) else if kind = 4 then 2 * (s / 4 + 1) + 10
  else if kind = 5 then q_hd (s / 4 + 1 - 3) + m else if kind = 6 then q_hd ((if s < 50 then 0 else s / 4 + 1) - m) else s / 4 + 1
def q_es (kind m w : Int32) : Int32 := if kind = 2 then w / 2 + 3 else if kind = 4 then 0 else if kind = 5 then w / 2 + 3 else if kind = 6 then w / 2 + m else w / 2
def q_gr (kind m y : Int32) : Int32 := if kind = 1 then 5 else if kind = 3 then 1 else if kind = 4 then 5 + m / 3 else if kind = 5 then (if y - y / 2 * 2 = 0 then 2 else 0) else if kind = 6 then 1 else 2
/-- a sign, of two -/
def q_dn (z v w : Int32) : Int32 :=
  if z = 124 then (if v = 0 then (if w = 0 then 0 else 1) else 1) else if z = 38 then (if v = 0 then 0 else if w = 0 then 0 else 1) else if z = 60 then (if v < w then 1 else 0) else if z = 61 then (if v = w then 1 else 0)
  else if z = 62 then (if w < v then 1 else 0) else if z = 43 then v + w else if z = 45 then v - w else if z = 42 then v * w else if z = 47 then (if w = 0 then 0 else v / w) else (if w = 0 then 0 else v - v / w * w)
/-- what is worked out on a pile: how many lie there, the pile -/
def q_st (nm : Nat → Int32) (z : Int32) (q : Nat × (Nat → Int32)) : Nat × (Nat → Int32) :=
  if z < 20000 then (q.1 + 1, upd q.2 q.1 (if z < 10000 then z else nm (z - 10000).toNatClampNeg))
  else if z = 20033 then (q.1, upd q.2 (q.1 - 1) (if q.2 (q.1 - 1) = 0 then 1 else 0))
  else (q.1 - 1, upd q.2 (q.1 - 2) (q_dn (z - 20000) (q.2 (q.1 - 2)) (q.2 (q.1 - 1))))
def q_ev (nm code s0 : Nat → Int32) : Nat → Nat × (Nat → Int32)
  | 0 => (0, s0)
  | n + 1 => q_st nm (code n) (q_ev nm code s0 n)
/-- a token, and how many lie on the pile ahead of it -/
def q_tk (z : Int32) (t : Nat) : Prop := (0 ≤ z ∧ z < 10003 ∧ t < 50) ∨ (z = 20033 ∧ 1 ≤ t) ∨ ((z = 20124 ∨ z = 20038 ∨ z = 20060 ∨ z = 20061 ∨ z = 20062 ∨ z = 20043 ∨ z = 20045 ∨ z = 20042 ∨ z = 20047 ∨ z = 20037) ∧ 2 ≤ t)
def q_dp (code : Nat → Int32) : Nat → Nat
  | 0 => 0
  | n + 1 => if code n < 20000 then q_dp code n + 1 else if code n = 20033 then q_dp code n else q_dp code n - 1
def q_wf (code : Nat → Int32) (len : Nat) : Prop := len ≤ 50 ∧ (∀ n, n < len → q_tk (code n) (q_dp code n)) ∧ (0 < len → q_dp code len = 1)
def q_n3 (a b c : Int32) : Nat → Int32 := fun k => if k = 0 then a else if k = 1 then b else c
/-- the texts in D -/
def q_code (D : Nat → Int32) (u : Nat) : Nat → Int32 := fun j => D (97 + 50 * u + j)
def q_tg (D : Nat → Int32) (u : Nat) (a b c : Int32) : Int32 := q_hd (if 0 < D (75 + u) then (q_ev (q_n3 a b c) (q_code D u) (fun _ => 0) (D (75 + u)).toNatClampNeg).2 0 else if u = 0 then a else 3)
def q_wfD (D : Nat → Int32) : Prop := ∀ u, u < 2 → ∃ n, D (75 + u) = nI n ∧ q_wf (q_code D u) n
def q_y8 (D : Nat → Int32) : Int32 := D 1 - D 1 / 8 * 8
def q_wept (D : Nat → Int32) (i : Nat) : Int32 := q_tg D 0 (q_wp (D (43 + 4 * i)) (D (44 + 4 * i)) (D (45 + 4 * i))) (D (45 + 4 * i)) (q_y8 D)
def q_bare (D : Nat → Int32) (c : Nat) : Nat := q_ct (fun b => q_adj c b && (decide (D (21 + b) = 1) || decide (D (5 + b) = 0))) 16
def q_weep (D : Nat → Int32) (i : Nat) : Nat → Int32 :=
  let w := q_wept D i
  let c := (D (46 + 4 * i)).toNatClampNeg
  let D1 := if D (21 + c) = 0 then upd D (5 + c) (q_hd (D (5 + c) + w)) else D
  upd D1 (45 + 4 * i) (q_hd (D (45 + 4 * i) - q_es (D (43 + 4 * i)) (D (44 + 4 * i)) w))
def q_df (a b : Int32) : Int32 := if 10 ≤ b - a then 1 else if b - a ≤ -10 then -1 else 0
def q_chg (D : Nat → Int32) (c : Nat) : Int32 := q_sum (fun b => if q_adj c b = true ∧ D (21 + b) + D (21 + c) = 0 then q_df (D (5 + c)) (D (5 + b)) else 0) 16
def q_seep (D : Nat → Int32) : Nat → Int32 := fun j => if 5 ≤ j ∧ j < 21 then q_hd (D j + q_chg D (j - 5)) else D j
def q_dry (D : Nat → Int32) : Nat → Int32 := fun j => if 5 ≤ j ∧ j < 21 then q_hd (D j - q_tg D 1 (D j) (nI (q_bare D (j - 5))) (q_y8 D)) else D j
def q_gri (D : Nat → Int32) : Nat → (Nat → Int32)
  | 0 => D
  | n + 1 => upd (q_gri D n) (45 + 4 * n) (q_hd (D (45 + 4 * n) + q_gr (D (43 + 4 * n)) (D (44 + 4 * n)) (D 1)))
def q_who (D : Nat → Int32) : Int32 := D (37 + (D 1 - D 1 / 6 * 6).toNatClampNeg)
def q_yr (D : Nat → Int32) : Nat → Int32 :=
  let D1 := if 0 ≤ q_who D ∧ q_who D ≤ D 0 - 1 then q_weep D (q_who D).toNatClampNeg else D
  let D3 := q_dry (q_seep D1)
  let D4 := q_gri D3 (D 0).toNatClampNeg
  upd D4 1 (D4 1 + 1)
def q_yrs (D : Nat → Int32) : Nat → (Nat → Int32)
  | 0 => D
  | n + 1 => q_yr (q_yrs D n)
/-- D as it must be -/
def q_ok (D : Nat → Int32) : Prop :=
  (∃ n, D 0 = nI n ∧ n ≤ 8) ∧ (∃ y, D 1 = nI y ∧ y ≤ 20000) ∧ (∀ c, c < 16 → ∃ w, D (5 + c) = nI w ∧ w ≤ 99) ∧ (∀ c, c < 16 → D (21 + c) = 0 ∨ D (21 + c) = 1) ∧ (∀ p, p < 6 → ∃ w, D (37 + p) = nI w ∧ w ≤ 7)
  ∧ (∀ i, i < 8 → (∃ w, D (43 + 4 * i) = nI w ∧ w ≤ 6) ∧ (∃ w, D (44 + 4 * i) = nI w ∧ w ≤ 9) ∧ (∃ w, D (45 + 4 * i) = nI w ∧ w ≤ 99) ∧ (∃ w, D (46 + 4 * i) = nI w ∧ w ≤ 15)) ∧ q_wfD D
