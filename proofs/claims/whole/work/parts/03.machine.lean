/-! the abstract machine: memory is numbers by object and place; references are object numbers -/
abbrev gM : Type := Nat → Nat → Int32
abbrev gK : Type := Nat → List Value → List Value → gM → Prop
abbrev gR : Type := Option Value → gM → Prop
abbrev gC : Type := Nat → List Value → gM → gR → Prop
def gc_up (μ : gM) (o j : Nat) (x : Int32) : gM := fun o' => if o' = o then upd (μ o) j x else μ o'
def gc_cp (μ : gM) (o1 o2 sp dp n : Nat) : gM := fun o' => if o' = o2 then va_cpy (μ o1) (μ o2) sp dp n else μ o'
def gc_o (o : Nat) : Nat × List Nat := gc_oT.getD o (99, [])
def gc_kd (o : Nat) : Nat := (gc_o o).1
def gc_fk (o j : Nat) : Nat := (gc_o o).2.getD j 0
/-- what field j of object o holds -/
def gc_fv (o j : Nat) (μ : gM) : Value := match gc_fk o j with
  | 0 => .int (μ o j)
  | 1 => .ref (μ o j).toNatClampNeg
  | r + 2 => .ref r
def gc_al (o : Nat) : Nat := gc_fk o 0
def gc_ra (o j : Nat) : Nat := gc_fk o 1 + gc_fk o 2 * j
/-- read-only tables -/
def gc_ro (o j : Nat) : Int32 := match o with
  | 108 => ([-1, 0, 0, 0, 1, 2, 3] : List Int32).getD j 0
  | 106 => ([119, 115, 121] : List Int32).getD j 0
  | 107 => ([119, 110, 121] : List Int32).getD j 0
  | _ => 0
def gc_f (k idx : Nat) : Option (Nat × Nat) := (gc_fT.find? (fun e => Nat.beq e.1 k && Nat.beq e.2.1 idx)).map (fun e => (e.2.2.1, e.2.2.2.1))
def gc_c (k idx rc : Nat) : Option (Nat × Nat) := (gc_cT.find? (fun e => Nat.beq e.1 k && Nat.beq e.2.1 idx && Nat.beq e.2.2.1 rc)).map (fun e => (e.2.2.2.1, e.2.2.2.2.1))
def gc_n (k idx : Nat) : Nat := ((gc_cT.find? (fun e => Nat.beq e.1 k && Nat.beq e.2.1 idx)).map (fun e => e.2.2.2.2.2.1)).getD 99
def gc_ne (k idx : Nat) : Option Nat := (gc_nT.find? (fun e => Nat.beq e.1 k && Nat.beq e.2.1 idx)).map (fun e => e.2.2.2.2.1)
def gc_s (k idx : Nat) : Nat := ((gc_sT.find? (fun e => Nat.beq e.1 k && Nat.beq e.2.1 idx)).map (fun e => e.2.2.1)).getD 0
def gc_k (k idx : Nat) : Option Int32 := (gc_kT.find? (fun e => Nat.beq e.1 k && Nat.beq e.2.1 idx)).map (fun e => e.2.2.1)
def gc_l (k idx : Nat) : Option Int64 := (gc_lT.find? (fun e => Nat.beq e.1 k && Nat.beq e.2.1 idx)).map (fun e => e.2.2.1)
/-- string constants and statics of the class: by class and entry -/
def gc_sr (k idx : Nat) : Option Nat := if k = 2 ∧ idx = 27 then some 102 else if k = 2 ∧ idx = 33 then some 103 else if k = 2 ∧ idx = 35 then some 104 else none
def gc_gs (k idx : Nat) : Option Value := if k = 11 ∧ idx = 310 then some (.ref 108) else if k = 15 ∧ idx = 38 then some (.int 1) else none
/-- fields of strings -/
def gc_sf (k idx : Nat) : Option Nat := if k = 15 ∧ idx = 9 then some 0 else if k = 15 ∧ idx = 15 then some 1 else none
def gc_B (b : Bool) (P : Prop) : Prop := match b with | true => P | false => False
def gc_tg (pc : Nat) (off : Int) : Nat := ((pc : Int) + off).toNat
def gc_tk (pc : Nat) (off : Int) (P : Prop) : Prop := gc_B (decide (0 ≤ (pc : Int) + off)) P
def gc_1i (st : List Value) (f : Int32 → List Value → Prop) : Prop := match st with | .int x :: r => f x r | _ => False
def gc_2i (st : List Value) (f : Int32 → Int32 → List Value → Prop) : Prop := match st with | .int y :: .int x :: r => f x y r | _ => False
def gc_1l (st : List Value) (f : Int64 → List Value → Prop) : Prop := match st with | .long x :: r => f x r | _ => False
def gc_2l (st : List Value) (f : Int64 → Int64 → List Value → Prop) : Prop := match st with | .long y :: .long x :: r => f x y r | _ => False
def gc_li (st : List Value) (f : Int64 → Int32 → List Value → Prop) : Prop := match st with | .int y :: .long x :: r => f x y r | _ => False
def gc_1r (st : List Value) (f : Nat → List Value → Prop) : Prop := match st with | .ref o :: r => f o r | _ => False
def gc_ir (st : List Value) (f : Nat → Int32 → List Value → Prop) : Prop := match st with | .int i :: .ref o :: r => f o i r | _ => False
def gc_iir (st : List Value) (f : Nat → Int32 → Int32 → List Value → Prop) : Prop := match st with | .int x :: .int i :: .ref o :: r => f o i x r | _ => False
def gc_ri (st : List Value) (f : Nat → Int32 → List Value → Prop) : Prop := match st with | .int x :: .ref o :: r => f o x r | _ => False
def gc_rr (st : List Value) (f : Nat → Nat → List Value → Prop) : Prop := match st with | .ref q :: .ref o :: r => f o q r | _ => False
def gc_cpa (st : List Value) (f : Nat → Int32 → Nat → Int32 → Int32 → List Value → Prop) : Prop := match st with | .int n :: .int dp :: .ref o2 :: .int sp :: .ref o1 :: r => f o1 sp o2 dp n r | _ => False
def gc_gi (L : List Value) (i : Nat) (f : Int32 → Prop) : Prop := match L[i]? with | some (.int x) => f x | _ => False
def gc_gl (L : List Value) (i : Nat) (f : Int64 → Prop) : Prop := match L[i]? with | some (.long x) => f x | _ => False
def gc_gr (L : List Value) (i : Nat) (f : Nat → Prop) : Prop := match L[i]? with | some (.ref x) => f x | _ => False
/-- a local may be overwritten: it isn't a long, nor a long's second half -/
def gc_sk : Value → Bool | .int _ => true | .ref _ => true | .retAddr 0 => true | _ => false
def gc_so (L : List Value) (i : Nat) (P : Prop) : Prop := match L[i]? with | some v => gc_B (gc_sk v) P | none => False
def gc_ic (c : ClassFile.Cond) (x y : Int32) : Prop := match c with | .eq => x = y | .ne => ¬ x = y | .lt => x < y | .ge => y ≤ x | .gt => y < x | .le => x ≤ y
def gc_lk (K : Nat → Prop) (pc : Nat) (d : Int) : List (Int × Int) → Int32 → Prop
  | [], _ => gc_tk pc d (K (gc_tg pc d))
  | (a, off) :: r, x => (x.toInt = a → gc_tk pc off (K (gc_tg pc off))) ∧ (¬ x.toInt = a → gc_lk K pc d r x)
def gc_ts (K : Nat → Prop) (pc : Nat) : List Int → Int → Int32 → Prop
  | [], _, _ => True
  | off :: r, v, x => (x.toInt = v → gc_tk pc off (K (gc_tg pc off))) ∧ gc_ts K pc r (v + 1) x
def gc_oe {α : Type} (o : Option α) (f : α → Prop) (g : Prop) : Prop := match o with | some a => f a | none => g
def gc_rc (st : List Value) (n : Nat) (f : Nat → List Value → Prop) : Prop := match st.drop n with | .ref o :: r => f o r | _ => False
def gc_rl (r : List Value) : Bool := Nat.ble r.length 4 || Nat.ble ((r.map fun v => v.category).sum) 8
def gc_r4 (r : List Value) (P : Prop) : Prop := gc_B (gc_rl r) P
/-- a call, its arguments the n upmost -/
def gc_cl (C : gC) (M n : Nat) (a0 : List Value) (K : gK) (pc : Nat) (L st r : List Value) (μ : gM) : Prop :=
  gc_r4 r (gc_B (Nat.ble n st.length) (C M (a0 ++ (st.take n).reverse) μ (fun v μ' => K (pc + 3) L (v.toList ++ r) μ')))
def gc_i (C : gC) (k b : Nat) (K : gK) (R : gR) (pc len : Nat) (L st : List Value) (μ : gM) (i : Instr) : Prop := match i with
  | .iconst n => gc_B (Nat.beq len 1) (K (pc + 1) L (.int (Int32.ofInt n) :: st) μ)
  | .bipush n => gc_B (Nat.beq len 2) (K (pc + 2) L (.int (Int8.ofInt n).toInt32 :: st) μ)
  | .sipush n => gc_B (Nat.beq len 3) (K (pc + 3) L (.int (Int16.ofInt n).toInt32 :: st) μ)
  | .lconst n => gc_B (Nat.beq len 1) (K (pc + 1) L (.long (Int64.ofNat (n : Nat)) :: st) μ)
  | .iload_n n => gc_B (Nat.beq len 1) (gc_gi L n fun x => K (pc + 1) L (.int x :: st) μ)
  | .iload n => gc_B (Nat.beq len 2) (gc_gi L n fun x => K (pc + 2) L (.int x :: st) μ)
  | .lload_n n => gc_B (Nat.beq len 1) (gc_gl L n fun x => K (pc + 1) L (.long x :: st) μ)
  | .lload n => gc_B (Nat.beq len 2) (gc_gl L n fun x => K (pc + 2) L (.long x :: st) μ)
  | .aload_n n => gc_B (Nat.beq len 1) (gc_gr L n fun x => K (pc + 1) L (.ref x :: st) μ)
  | .aload n => gc_B (Nat.beq len 2) (gc_gr L n fun x => K (pc + 2) L (.ref x :: st) μ)
  | .istore_n n => gc_B (Nat.beq len 1) (gc_so L n (gc_1i st fun x r => K (pc + 1) (L.set n (.int x)) r μ))
  | .istore n => gc_B (Nat.beq len 2) (gc_so L n (gc_1i st fun x r => K (pc + 2) (L.set n (.int x)) r μ))
  | .astore_n n => gc_B (Nat.beq len 1) (gc_so L n (gc_1r st fun x r => K (pc + 1) (L.set n (.ref x)) r μ))
  | .astore n => gc_B (Nat.beq len 2) (gc_so L n (gc_1r st fun x r => K (pc + 2) (L.set n (.ref x)) r μ))
  | .iinc n z => gc_B (Nat.beq len 3) (gc_gi L n fun x => K (pc + 3) (L.set n (.int (x + Int32.ofInt z))) st μ)
  | .iadd => gc_B (Nat.beq len 1) (gc_2i st fun x y r => K (pc + 1) L (.int (x + y) :: r) μ)
  | .isub => gc_B (Nat.beq len 1) (gc_2i st fun x y r => K (pc + 1) L (.int (x - y) :: r) μ)
  | .imul => gc_B (Nat.beq len 1) (gc_2i st fun x y r => K (pc + 1) L (.int (x * y) :: r) μ)
  | .iand => gc_B (Nat.beq len 1) (gc_2i st fun x y r => K (pc + 1) L (.int (x &&& y) :: r) μ)
  | .ior => gc_B (Nat.beq len 1) (gc_2i st fun x y r => K (pc + 1) L (.int (x ||| y) :: r) μ)
  | .ixor => gc_B (Nat.beq len 1) (gc_2i st fun x y r => K (pc + 1) L (.int (x ^^^ y) :: r) μ)
  | .idiv => gc_B (Nat.beq len 1) (gc_2i st fun x y r => ¬ y = 0 ∧ K (pc + 1) L (.int (x / y) :: r) μ)
  | .irem => gc_B (Nat.beq len 1) (gc_2i st fun x y r => ¬ y = 0 ∧ K (pc + 1) L (.int (x - x / y * y) :: r) μ)
  | .ishl => gc_B (Nat.beq len 1) (gc_2i st fun x y r => K (pc + 1) L (.int (x <<< (y &&& 31)) :: r) μ)
  | .ishr => gc_B (Nat.beq len 1) (gc_2i st fun x y r => K (pc + 1) L (.int (x >>> (y &&& 31)) :: r) μ)
  | .iushr => gc_B (Nat.beq len 1) (gc_2i st fun x y r => K (pc + 1) L (.int (x.toUInt32 >>> (y.toUInt32 &&& Int32.toUInt32 31)).toInt32 :: r) μ)
  | .ineg => gc_B (Nat.beq len 1) (gc_1i st fun x r => K (pc + 1) L (.int (-x) :: r) μ)
  | .i2l => gc_B (Nat.beq len 1) (gc_1i st fun x r => K (pc + 1) L (.long x.toInt64 :: r) μ)
  | .i2b => gc_B (Nat.beq len 1) (gc_1i st fun x r => K (pc + 1) L (.int x.toInt8.toInt32 :: r) μ)
  | .i2s => gc_B (Nat.beq len 1) (gc_1i st fun x r => K (pc + 1) L (.int x.toInt16.toInt32 :: r) μ)
  | .i2c => gc_B (Nat.beq len 1) (gc_1i st fun x r => K (pc + 1) L (.int (x.toUInt32 % 65536).toInt32 :: r) μ)
  | .l2i => gc_B (Nat.beq len 1) (gc_1l st fun x r => K (pc + 1) L (.int x.toInt32 :: r) μ)
  | .land => gc_B (Nat.beq len 1) (gc_2l st fun x y r => K (pc + 1) L (.long (x &&& y) :: r) μ)
  | .lor => gc_B (Nat.beq len 1) (gc_2l st fun x y r => K (pc + 1) L (.long (x ||| y) :: r) μ)
  | .lcmp => gc_B (Nat.beq len 1) (gc_2l st fun x y r => K (pc + 1) L (.int (lg_cmp x y) :: r) μ)
  | .lushr => gc_B (Nat.beq len 1) (gc_li st fun x y r => K (pc + 1) L (.long (x.toUInt64 >>> (y.toInt64.toUInt64 &&& Int64.toUInt64 63)).toInt64 :: r) μ)
  | .lshr => gc_B (Nat.beq len 1) (gc_li st fun x y r => K (pc + 1) L (.long (x >>> (y.toInt64 &&& 63)) :: r) μ)
  | .lshl => gc_B (Nat.beq len 1) (gc_li st fun x y r => K (pc + 1) L (.long (x <<< (y.toInt64 &&& 63)) :: r) μ)
  | .dup => gc_B (Nat.beq len 1) ((gc_1i st fun x r => K (pc + 1) L (.int x :: .int x :: r) μ) ∨ (gc_1r st fun x r => K (pc + 1) L (.ref x :: .ref x :: r) μ))
  | .dup2 => gc_B (Nat.beq len 1) (gc_ir st fun o i r => K (pc + 1) L (.int i :: .ref o :: .int i :: .ref o :: r) μ)
  | .ldc n => gc_B (Nat.beq len 2) (gc_oe (gc_k k n) (fun v => K (pc + 2) L (.int v :: st) μ) (gc_oe (gc_sr k n) (fun o => K (pc + 2) L (.ref o :: st) μ) False))
  | .ldc_w n => gc_B (Nat.beq len 3) (gc_oe (gc_k k n) (fun v => K (pc + 3) L (.int v :: st) μ) False)
  | .ldc2_w n => gc_B (Nat.beq len 3) (gc_oe (gc_l k n) (fun v => K (pc + 3) L (.long v :: st) μ) False)
  | .ifCond c off => gc_B (Nat.beq len 3) (gc_tk pc off (gc_1i st fun x r => (gc_ic c x 0 → K (gc_tg pc off) L r μ) ∧ (¬ gc_ic c x 0 → K (pc + 3) L r μ)))
  | .if_icmp c off => gc_B (Nat.beq len 3) (gc_tk pc off (gc_2i st fun x y r => (gc_ic c x y → K (gc_tg pc off) L r μ) ∧ (¬ gc_ic c x y → K (pc + 3) L r μ)))
  | .goto off => gc_B (Nat.beq len 3) (gc_tk pc off (K (gc_tg pc off) L st μ))
  | .lookupswitch d ps => gc_1i st fun x r => gc_B ((ps.toList.zip (ps.toList.drop 1)).all (fun (a, next) => a.1 < next.1)) (gc_lk (fun q => K q L r μ) pc d ps.toList x)
  | .tableswitch d lo hi offs => gc_1i st fun x r => gc_B (Nat.beq offs.size (hi - lo + 1).toNat) ((x.toInt < lo ∨ hi < x.toInt → gc_tk pc d (K (gc_tg pc d) L r μ)) ∧ gc_ts (fun q => K q L r μ) pc offs.toList lo x)
  | .getfield n => gc_B (Nat.beq len 3) (gc_1r st fun o r => gc_oe (gc_f k n) (fun q => gc_B (Nat.beq (gc_kd o) q.1) (K (pc + 3) L (gc_fv o q.2 μ :: r) μ))
      (gc_oe (gc_sf k n) (fun j => gc_B (Nat.beq (gc_kd o) 32) (K (pc + 3) L (gc_fv o j (fun _ _ => 0) :: r) μ)) False))
  | .putfield n => gc_B (Nat.beq len 3) (gc_oe (gc_f k n) (fun q =>
      (gc_ri st fun o x r => gc_B (Nat.beq (gc_kd o) q.1 && Nat.beq (gc_fk o q.2) 0) ((q.1 = 12 ∧ q.2 = 10 → x = 0 ∨ x = 1) ∧ K (pc + 3) L r (gc_up μ o q.2 x)))
      ∨ (gc_rr st fun o z r => gc_B (Nat.beq (gc_kd o) q.1 && Nat.beq (gc_fk o q.2) 1 && Nat.blt z 1000) (K (pc + 3) L r (gc_up μ o q.2 (nI z))))) False)
  | .getstatic n => gc_B (Nat.beq len 3) (gc_oe (gc_gs k n) (fun v => K (pc + 3) L (v :: st) μ) False)
  | .iaload => gc_B (Nat.beq len 1) (gc_ir st fun o i r =>
      gc_B (Nat.beq (gc_kd o) 20) (vp_in i (gc_al o) ∧ K (pc + 1) L (.int (μ o i.toNatClampNeg) :: r) μ)
      ∨ gc_B (Nat.beq (gc_kd o) 30) (vp_in i (gc_al o) ∧ K (pc + 1) L (.int (gc_ro o i.toNatClampNeg) :: r) μ)
      ∨ gc_B (Nat.beq (gc_kd o) 31) (vp_in i (μ 110 0).toNatClampNeg ∧ K (pc + 1) L (.int (μ 109 i.toNatClampNeg) :: r) μ))
  | .baload => gc_B (Nat.beq len 1) (gc_ir st fun o i r =>
      gc_B (Nat.beq (gc_kd o) 21) (vp_in i (gc_al o) ∧ K (pc + 1) L (.int (μ o i.toNatClampNeg) :: r) μ)
      ∨ gc_B (Nat.beq (gc_kd o) 33) (vp_in i (gc_al o) ∧ K (pc + 1) L (.int (gc_ro o i.toNatClampNeg) :: r) μ))
  | .aaload => gc_B (Nat.beq len 1) (gc_ir st fun o i r => gc_B (Nat.ble 22 (gc_kd o) && Nat.ble (gc_kd o) 24) (vp_in i (gc_al o) ∧ K (pc + 1) L (.ref (gc_ra o i.toNatClampNeg) :: r) μ))
  | .iastore => gc_B (Nat.beq len 1) (gc_iir st fun o i x r => gc_B (Nat.beq (gc_kd o) 20) (vp_in i (gc_al o) ∧ K (pc + 1) L r (gc_up μ o i.toNatClampNeg x)))
  | .bastore => gc_B (Nat.beq len 1) (gc_iir st fun o i x r => gc_B (Nat.beq (gc_kd o) 21) (vp_in i (gc_al o) ∧ (x = 0 ∨ x = 1) ∧ K (pc + 1) L r (gc_up μ o i.toNatClampNeg x)))
  | .arraylength => gc_B (Nat.beq len 1) (gc_1r st fun o r =>
      gc_B (Nat.beq (gc_kd o) 20 || Nat.beq (gc_kd o) 33) (K (pc + 1) L (.int (nI (gc_al o)) :: r) μ)
      ∨ gc_B (Nat.beq (gc_kd o) 31) (K (pc + 1) L (.int (μ 110 0) :: r) μ))
  | .invokestatic n => gc_B (Nat.beq len 3) (
      gc_B (Nat.beq (gc_s k n) 1) (gc_cpa st fun o1 sp o2 dp z r => gc_r4 r (gc_B (Nat.beq (gc_kd o1) 20 && Nat.beq (gc_kd o2) 20) ((¬ sp < 0 ∧ ¬ dp < 0 ∧ ¬ z < 0 ∧ sp.toNatClampNeg + z.toNatClampNeg ≤ gc_al o1 ∧ dp.toNatClampNeg + z.toNatClampNeg ≤ gc_al o2) ∧ K (pc + 3) L r (gc_cp μ o1 o2 sp.toNatClampNeg dp.toNatClampNeg z.toNatClampNeg))))
      ∨ gc_B (Nat.beq (gc_s k n) 2) (gc_2i st fun x y r => gc_r4 r (K (pc + 3) L (.int (if x < y then y else x) :: r) μ))
      ∨ gc_B (Nat.beq (gc_s k n) 3) (gc_2i st fun x y r => gc_r4 r (K (pc + 3) L (.int (if y < x then y else x) :: r) μ))
      ∨ gc_B (Nat.beq (gc_s k n) 0) (gc_oe (gc_ne k n) (fun M => gc_cl C M 1 [] K pc L st (st.drop 1) μ) (gc_oe (gc_c k n 97) (fun q => gc_cl C q.2 (gc_n k n) [] K pc L st (st.drop (gc_n k n)) μ) False)))
  | .invokespecial n => gc_B (Nat.beq len 3) (gc_oe (gc_c k n 98) (fun q => gc_rc st (gc_n k n) fun o r => gc_B (Nat.blt (gc_kd o) 13) (gc_cl C q.2 (gc_n k n) [.ref o] K pc L st r μ)) False)
  | .invokevirtual n => gc_B (Nat.beq len 3) (gc_rc st (gc_n k n) fun o r => gc_oe (gc_c k n (if Nat.beq (gc_kd o) 32 then 15 else gc_kd o)) (fun q => gc_cl C q.2 (gc_n k n) [.ref o] K pc L st r μ) False)
  | .ireturn => gc_B (Nat.beq len 1) (gc_1i st fun v r => r = [] ∧ (b = 0 ∨ b = 1 ∧ (v = 0 ∨ v = 1)) ∧ R (some (.int v)) μ)
  | .areturn => gc_B (Nat.beq len 1) (gc_1r st fun v r => r = [] ∧ b = 3 ∧ R (some (.ref v)) μ)
  | .return_ => gc_B (Nat.beq len 1) (st = [] ∧ b = 2 ∧ R none μ)
  | _ => False
def gc_d (C : gC) (cc : ByteArray) (k b : Nat) (K : gK) (R : gR) (pc : Nat) (L st : List Value) (μ : gM) : Prop := match decode cc pc with
  | .ok (i, len) => gc_i C k b K R pc len L st μ i
  | .error _ => False
/-- the least predicate that steps lead out of -/
def gc_W (C : gC) (cc : ByteArray) (k b : Nat) (R : gR) (pc : Nat) (L st : List Value) (μ : gM) : Prop :=
  ∀ P : gK, (∀ pc L st μ, gc_d C cc k b P R pc L st μ → P pc L st μ) → P pc L st μ
def gc_C (C : gC) : Prop := ∀ M a μ (R R' : gR), (∀ v m, R v m → R' v m) → C M a μ R → C M a μ R'
theorem gc_Bm {b : Bool} {P Q : Prop} (h : P → Q) : gc_B b P → gc_B b Q := by cases b <;> first | exact id | exact h
theorem gc_Be {b : Bool} {P : Prop} (h : gc_B b P) : b = true ∧ P := by cases b <;> first | exact h.elim | exact ⟨rfl, h⟩
theorem gc_Bi {b : Bool} {P : Prop} (hb : b = true) (h : P) : gc_B b P := by subst hb; exact h
theorem gc_B_iff {b : Bool} {P : Prop} : gc_B b P ↔ b = true ∧ P := ⟨gc_Be, fun h => gc_Bi h.1 h.2⟩
theorem gc_1ie {st : List Value} {f : Int32 → List Value → Prop} (h : gc_1i st f) : ∃ x r, st = .int x :: r ∧ f x r := by
  unfold gc_1i at h; split at h <;> first | exact ⟨_, _, rfl, h⟩ | exact h.elim
theorem gc_2ie {st : List Value} {f : Int32 → Int32 → List Value → Prop} (h : gc_2i st f) : ∃ x y r, st = .int y :: .int x :: r ∧ f x y r := by
  unfold gc_2i at h; split at h <;> first | exact ⟨_, _, _, rfl, h⟩ | exact h.elim
theorem gc_1le {st : List Value} {f : Int64 → List Value → Prop} (h : gc_1l st f) : ∃ x r, st = .long x :: r ∧ f x r := by
  unfold gc_1l at h; split at h <;> first | exact ⟨_, _, rfl, h⟩ | exact h.elim
theorem gc_2le {st : List Value} {f : Int64 → Int64 → List Value → Prop} (h : gc_2l st f) : ∃ x y r, st = .long y :: .long x :: r ∧ f x y r := by
  unfold gc_2l at h; split at h <;> first | exact ⟨_, _, _, rfl, h⟩ | exact h.elim
theorem gc_lie {st : List Value} {f : Int64 → Int32 → List Value → Prop} (h : gc_li st f) : ∃ x y r, st = .int y :: .long x :: r ∧ f x y r := by
  unfold gc_li at h; split at h <;> first | exact ⟨_, _, _, rfl, h⟩ | exact h.elim
theorem gc_1re {st : List Value} {f : Nat → List Value → Prop} (h : gc_1r st f) : ∃ x r, st = .ref x :: r ∧ f x r := by
  unfold gc_1r at h; split at h <;> first | exact ⟨_, _, rfl, h⟩ | exact h.elim
theorem gc_ire {st : List Value} {f : Nat → Int32 → List Value → Prop} (h : gc_ir st f) : ∃ o i r, st = .int i :: .ref o :: r ∧ f o i r := by
  unfold gc_ir at h; split at h <;> first | exact ⟨_, _, _, rfl, h⟩ | exact h.elim
theorem gc_iire {st : List Value} {f : Nat → Int32 → Int32 → List Value → Prop} (h : gc_iir st f) : ∃ o i x r, st = .int x :: .int i :: .ref o :: r ∧ f o i x r := by
  unfold gc_iir at h; split at h <;> first | exact ⟨_, _, _, _, rfl, h⟩ | exact h.elim
theorem gc_rie {st : List Value} {f : Nat → Int32 → List Value → Prop} (h : gc_ri st f) : ∃ o x r, st = .int x :: .ref o :: r ∧ f o x r := by
  unfold gc_ri at h; split at h <;> first | exact ⟨_, _, _, rfl, h⟩ | exact h.elim
theorem gc_rre {st : List Value} {f : Nat → Nat → List Value → Prop} (h : gc_rr st f) : ∃ o q r, st = .ref q :: .ref o :: r ∧ f o q r := by
  unfold gc_rr at h; split at h <;> first | exact ⟨_, _, _, rfl, h⟩ | exact h.elim
theorem gc_cpae {st : List Value} {f : Nat → Int32 → Nat → Int32 → Int32 → List Value → Prop} (h : gc_cpa st f) : ∃ o1 sp o2 dp n r, st = .int n :: .int dp :: .ref o2 :: .int sp :: .ref o1 :: r ∧ f o1 sp o2 dp n r := by
  unfold gc_cpa at h; split at h <;> first | exact ⟨_, _, _, _, _, _, rfl, h⟩ | exact h.elim
theorem gc_gie {L : List Value} {i : Nat} {f : Int32 → Prop} (h : gc_gi L i f) : ∃ x, L[i]? = some (.int x) ∧ f x := by
  unfold gc_gi at h; split at h <;> first | exact ⟨_, by assumption, h⟩ | exact h.elim
theorem gc_gle {L : List Value} {i : Nat} {f : Int64 → Prop} (h : gc_gl L i f) : ∃ x, L[i]? = some (.long x) ∧ f x := by
  unfold gc_gl at h; split at h <;> first | exact ⟨_, by assumption, h⟩ | exact h.elim
theorem gc_gre {L : List Value} {i : Nat} {f : Nat → Prop} (h : gc_gr L i f) : ∃ x, L[i]? = some (.ref x) ∧ f x := by
  unfold gc_gr at h; split at h <;> first | exact ⟨_, by assumption, h⟩ | exact h.elim
theorem gc_soe {L : List Value} {i : Nat} {P : Prop} (h : gc_so L i P) : ∃ v, L[i]? = some v ∧ gc_sk v = true ∧ P := by
  unfold gc_so at h; split at h
  · exact ⟨_, by assumption, (gc_Be h).1, (gc_Be h).2⟩
  · exact h.elim
theorem gc_oee {α : Type} {o : Option α} {f : α → Prop} {g : Prop} (h : gc_oe o f g) : (∃ a, o = some a ∧ f a) ∨ (o = none ∧ g) := by
  cases o <;> first | exact Or.inl ⟨_, rfl, h⟩ | exact Or.inr ⟨rfl, h⟩
theorem gc_rce {st : List Value} {n : Nat} {f : Nat → List Value → Prop} (h : gc_rc st n f) : ∃ o r, st.drop n = .ref o :: r ∧ f o r := by
  unfold gc_rc at h; split at h <;> first | exact ⟨_, _, by assumption, h⟩ | exact h.elim
theorem gc_1im {st : List Value} {f g : Int32 → List Value → Prop} (h : ∀ x r, f x r → g x r) : gc_1i st f → gc_1i st g := fun z => by obtain ⟨_, _, rfl, z⟩ := gc_1ie z; exact h _ _ z
theorem gc_2im {st : List Value} {f g : Int32 → Int32 → List Value → Prop} (h : ∀ x y r, f x y r → g x y r) : gc_2i st f → gc_2i st g := fun z => by obtain ⟨_, _, _, rfl, z⟩ := gc_2ie z; exact h _ _ _ z
theorem gc_1lm {st : List Value} {f g : Int64 → List Value → Prop} (h : ∀ x r, f x r → g x r) : gc_1l st f → gc_1l st g := fun z => by obtain ⟨_, _, rfl, z⟩ := gc_1le z; exact h _ _ z
theorem gc_2lm {st : List Value} {f g : Int64 → Int64 → List Value → Prop} (h : ∀ x y r, f x y r → g x y r) : gc_2l st f → gc_2l st g := fun z => by obtain ⟨_, _, _, rfl, z⟩ := gc_2le z; exact h _ _ _ z
theorem gc_lim {st : List Value} {f g : Int64 → Int32 → List Value → Prop} (h : ∀ x y r, f x y r → g x y r) : gc_li st f → gc_li st g := fun z => by obtain ⟨_, _, _, rfl, z⟩ := gc_lie z; exact h _ _ _ z
theorem gc_1rm {st : List Value} {f g : Nat → List Value → Prop} (h : ∀ x r, f x r → g x r) : gc_1r st f → gc_1r st g := fun z => by obtain ⟨_, _, rfl, z⟩ := gc_1re z; exact h _ _ z
theorem gc_irm {st : List Value} {f g : Nat → Int32 → List Value → Prop} (h : ∀ x y r, f x y r → g x y r) : gc_ir st f → gc_ir st g := fun z => by obtain ⟨_, _, _, rfl, z⟩ := gc_ire z; exact h _ _ _ z
theorem gc_iirm {st : List Value} {f g : Nat → Int32 → Int32 → List Value → Prop} (h : ∀ x y w r, f x y w r → g x y w r) : gc_iir st f → gc_iir st g := fun z => by obtain ⟨_, _, _, _, rfl, z⟩ := gc_iire z; exact h _ _ _ _ z
theorem gc_rim {st : List Value} {f g : Nat → Int32 → List Value → Prop} (h : ∀ x y r, f x y r → g x y r) : gc_ri st f → gc_ri st g := fun z => by obtain ⟨_, _, _, rfl, z⟩ := gc_rie z; exact h _ _ _ z
theorem gc_rrm {st : List Value} {f g : Nat → Nat → List Value → Prop} (h : ∀ x y r, f x y r → g x y r) : gc_rr st f → gc_rr st g := fun z => by obtain ⟨_, _, _, rfl, z⟩ := gc_rre z; exact h _ _ _ z
theorem gc_cpam {st : List Value} {f g : Nat → Int32 → Nat → Int32 → Int32 → List Value → Prop} (h : ∀ a b c d e r, f a b c d e r → g a b c d e r) : gc_cpa st f → gc_cpa st g := fun z => by obtain ⟨_, _, _, _, _, _, rfl, z⟩ := gc_cpae z; exact h _ _ _ _ _ _ z
theorem gc_gim {L : List Value} {i : Nat} {f g : Int32 → Prop} (h : ∀ x, f x → g x) : gc_gi L i f → gc_gi L i g := fun z => by obtain ⟨x, e, z⟩ := gc_gie z; unfold gc_gi; rw [e]; exact h _ z
theorem gc_glm {L : List Value} {i : Nat} {f g : Int64 → Prop} (h : ∀ x, f x → g x) : gc_gl L i f → gc_gl L i g := fun z => by obtain ⟨x, e, z⟩ := gc_gle z; unfold gc_gl; rw [e]; exact h _ z
theorem gc_grm {L : List Value} {i : Nat} {f g : Nat → Prop} (h : ∀ x, f x → g x) : gc_gr L i f → gc_gr L i g := fun z => by obtain ⟨x, e, z⟩ := gc_gre z; unfold gc_gr; rw [e]; exact h _ z
theorem gc_som {L : List Value} {i : Nat} {P Q : Prop} (h : P → Q) : gc_so L i P → gc_so L i Q := fun z => by obtain ⟨v, e, e2, z⟩ := gc_soe z; unfold gc_so; rw [e]; exact gc_Bi e2 (h z)
theorem gc_oem {α : Type} {o : Option α} {f f' : α → Prop} {g g' : Prop} (h : ∀ a, f a → f' a) (h2 : g → g') : gc_oe o f g → gc_oe o f' g' := by cases o <;> first | exact h _ | exact h2
theorem gc_rcm {st : List Value} {n : Nat} {f g : Nat → List Value → Prop} (h : ∀ x r, f x r → g x r) : gc_rc st n f → gc_rc st n g := fun z => by obtain ⟨o, r, e, z⟩ := gc_rce z; unfold gc_rc; rw [e]; exact h _ _ z
theorem gc_lkm {K K' : Nat → Prop} (h : ∀ q, K q → K' q) {pc : Nat} {d : Int} : ∀ {ps : List (Int × Int)} {x : Int32}, gc_lk K pc d ps x → gc_lk K' pc d ps x
  | [], _ => gc_Bm (h _)
  | (_, _) :: _, _ => And.imp (fun z e => gc_Bm (h _) (z e)) (fun z e => gc_lkm h (z e))
theorem gc_tsm {K K' : Nat → Prop} (h : ∀ q, K q → K' q) {pc : Nat} : ∀ {ps : List Int} {v : Int} {x : Int32}, gc_ts K pc ps v x → gc_ts K' pc ps v x
  | [], _, _ => id
  | _ :: _, _, _ => And.imp (fun z e => gc_Bm (h _) (z e)) (gc_tsm h)
theorem gc_clm {C : gC} (hC : gc_C C) {K K' : gK} (h : ∀ pc L st μ, K pc L st μ → K' pc L st μ) {M n : Nat} {a0 : List Value} {pc : Nat} {L st r : List Value} {μ : gM} : gc_cl C M n a0 K pc L st r μ → gc_cl C M n a0 K' pc L st r μ :=
  gc_Bm (gc_Bm (hC _ _ _ _ _ (fun _ _ => h _ _ _ _)))
set_option maxHeartbeats 4000000 in
theorem gc_im {C : gC} (hC : gc_C C) {k b : Nat} {K K' : gK} {R R' : gR} (h : ∀ pc L st μ, K pc L st μ → K' pc L st μ) (hR : ∀ v μ, R v μ → R' v μ) {pc len : Nat} {L st : List Value} {μ : gM} {i : Instr} : gc_i C k b K R pc len L st μ i → gc_i C k b K' R' pc len L st μ i := by
  cases i <;> unfold gc_i <;> dsimp only <;>
  (repeat' first
    | exact id
    | exact h _ _ _ _
    | exact hR _ _
    | exact gc_clm hC h
    | exact gc_lkm (fun _ => h _ _ _ _)
    | exact gc_tsm (fun _ => h _ _ _ _)
    | exact fun z e => gc_Bm (h _ _ _ _) (z e)
    | exact fun z e => h _ _ _ _ (z e)
    | refine gc_Bm ?_
    | refine gc_1im (fun _ _ => ?_) | refine gc_2im (fun _ _ _ => ?_) | refine gc_1lm (fun _ _ => ?_) | refine gc_2lm (fun _ _ _ => ?_)
    | refine gc_lim (fun _ _ _ => ?_) | refine gc_1rm (fun _ _ => ?_) | refine gc_irm (fun _ _ _ => ?_) | refine gc_iirm (fun _ _ _ _ => ?_)
    | refine gc_rim (fun _ _ _ => ?_) | refine gc_rrm (fun _ _ _ => ?_) | refine gc_cpam (fun _ _ _ _ _ _ => ?_)
    | refine gc_gim (fun _ => ?_) | refine gc_glm (fun _ => ?_) | refine gc_grm (fun _ => ?_) | refine gc_som ?_
    | refine gc_rcm (fun _ _ => ?_) | refine gc_oem (fun _ => ?_) ?_
    | refine And.imp ?_ ?_ | refine Or.imp ?_ ?_)
theorem gc_dm {C : gC} (hC : gc_C C) {cc : ByteArray} {k b : Nat} {K K' : gK} {R R' : gR} (h : ∀ pc L st μ, K pc L st μ → K' pc L st μ) (hR : ∀ v μ, R v μ → R' v μ) {pc : Nat} {L st : List Value} {μ : gM} : gc_d C cc k b K R pc L st μ → gc_d C cc k b K' R' pc L st μ := by
  unfold gc_d
  split
  · exact gc_im hC h hR
  · exact id
theorem gc_fold {C : gC} (hC : gc_C C) {cc : ByteArray} {k b : Nat} {R : gR} {pc : Nat} {L st : List Value} {μ : gM} (h : gc_d C cc k b (gc_W C cc k b R) R pc L st μ) : gc_W C cc k b R pc L st μ :=
  fun P hP => hP _ _ _ _ (gc_dm hC (fun _ _ _ _ z => z P hP) (fun _ _ => id) h)
theorem gc_unf {C : gC} (hC : gc_C C) {cc : ByteArray} {k b : Nat} {R : gR} {pc : Nat} {L st : List Value} {μ : gM} (h : gc_W C cc k b R pc L st μ) : gc_d C cc k b (gc_W C cc k b R) R pc L st μ :=
  h (fun pc L st μ => gc_d C cc k b (gc_W C cc k b R) R pc L st μ) (fun _ _ _ _ z => gc_dm hC (fun _ _ _ _ => gc_fold hC) (fun _ _ => id) z)
theorem gc_step {C : gC} (hC : gc_C C) {cc : ByteArray} {k b : Nat} {R : gR} {pc len : Nat} {i : Instr} (hd : decode cc pc = .ok (i, len)) {L st : List Value} {μ : gM} : gc_W C cc k b R pc L st μ ↔ gc_i C k b (gc_W C cc k b R) R pc len L st μ i := by
  have e : gc_d C cc k b (gc_W C cc k b R) R pc L st μ = gc_i C k b (gc_W C cc k b R) R pc len L st μ i := by unfold gc_d; rw [hd]
  exact ⟨fun h => e ▸ gc_unf hC h, fun h => gc_fold hC (e ▸ h)⟩
theorem gc_Wm {C : gC} (hC : gc_C C) {cc : ByteArray} {k b : Nat} {R R' : gR} (hR : ∀ v μ, R v μ → R' v μ) {pc : Nat} {L st : List Value} {μ : gM} (h : gc_W C cc k b R pc L st μ) : gc_W C cc k b R' pc L st μ :=
  h _ (fun _ _ _ _ z => gc_fold hC (gc_dm hC (fun _ _ _ _ => id) hR z))
/-- the locals as a call lays them -/
def gc_en : List Value → List Value
  | [] => []
  | v :: r => if v.category = 2 then v :: .retAddr 1 :: gc_en r else v :: gc_en r
def gc_pad (n : Nat) (l : List Value) : List Value := l ++ List.replicate (n - l.length) (.retAddr 0)
def gc_S : Nat → gC
  | 0 => fun _ _ _ _ => False
  | d + 1 => fun M a μ R => gc_B (Nat.ble (gc_en a).length (gc_m M).2.2.1) (gc_W (gc_S d) (gc_m M).2.1 (gc_m M).2.2.2.2.1 (gc_m M).2.2.2.2.2 R 0 (gc_pad (gc_m M).2.2.1 (gc_en a)) [] μ)
theorem gc_SC : ∀ d, gc_C (gc_S d)
  | 0 => fun _ _ _ _ _ _ h => h
  | d + 1 => fun _ _ _ _ _ hR h => gc_Bm (gc_Wm (gc_SC d) hR) h
