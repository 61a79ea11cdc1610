/-! constructors: the tables -/
def ct_mT : List (MethodName × ByteArray × Nat × Nat × Nat × Nat) := [(yX0_init, cX0_init, 4, 122, 11, 146), (yX1_init, cX1_init, 1, 4, 0, 0), (yX2_init, cX2_init, 1, 39, 3, 103), (yX3_init, cX3_init, 1, 4, 0, 0), (yX4_init, cX4_init, 1, 4, 0, 0), (yX5_init, cX5_init, 1, 4, 0, 0), (yX6_init, cX6_init, 1, 4, 0, 0), (yX7_init, cX7_init, 2, 11, 1, 0), (yX8_init, cX8_init, 1, 4, 0, 0), (yX9_init, cX9_init, 1, 17, 2, 43), (yX10_init, cX10_init, 1, 4, 0, 0), (yX11_init, cX11_init, 5, 261, 82, 2337), (yX12_init, cX12_init, 2, 180, 18, 2044)]
def ct_mt (M : Nat) : MethodName × ByteArray × Nat × Nat × Nat × Nat := ct_mT.getD M (⟨"", "", ""⟩, ⟨#[]⟩, 0, 0, 0, 0)
def ct_mP : List Nat := [1134, 1077, 1085, 1056, 1070, 1035, 1063, 1091, 1049, 1204, 1042, 1026, 4229]
def ct_nT : List (Nat × Nat × Nat × Nat × Nat × Nat) := [(17, 7, 11, 1022, 1023, 1001), (11, 9, 5, 1030, 1032, 1002), (11, 12, 10, 1038, 1039, 1003), (11, 15, 8, 1045, 1046, 1004), (11, 18, 3, 1052, 1053, 1005), (11, 21, 6, 1059, 1060, 1006), (11, 24, 4, 1066, 1067, 1007), (11, 27, 1, 1073, 1074, 1008), (11, 30, 2, 1080, 1082, 1009), (2, 9, 7, 1087, 1088, 1010), (11, 33, 0, 1130, 1131, 1011), (0, 33, 7, 1136, 1088, 1010), (11, 52, 7, 1197, 1088, 1010), (11, 61, 9, 1200, 1201, 1012), (9, 9, 7, 1206, 1088, 1010), (17, 10, 12, 4225, 4226, 1013)]
def ct_kT : List (Nat × Nat × Nat × Nat × Nat × Nat × Nat × Nat × Nat) := [(17, 9, 1, 11, 0, 1024, 1025, 1026, 1001), (11, 3, 0, 0, 0, 1027, 1028, 1029, 0), (11, 11, 2, 5, 0, 1033, 1034, 1035, 1002), (5, 1, 0, 0, 0, 1036, 1028, 1029, 0), (11, 14, 2, 10, 0, 1040, 1041, 1042, 1003), (10, 1, 2, 5, 0, 1043, 1034, 1035, 1002), (11, 17, 2, 8, 0, 1047, 1048, 1049, 1004), (8, 1, 2, 5, 0, 1050, 1034, 1035, 1002), (11, 20, 2, 3, 0, 1054, 1055, 1056, 1005), (3, 1, 2, 5, 0, 1057, 1034, 1035, 1002), (11, 23, 2, 6, 0, 1061, 1062, 1063, 1006), (6, 1, 2, 10, 0, 1064, 1041, 1042, 1003), (11, 26, 2, 4, 0, 1068, 1069, 1070, 1007), (4, 1, 2, 8, 0, 1071, 1048, 1049, 1004), (11, 29, 2, 1, 0, 1075, 1076, 1077, 1008), (1, 1, 2, 3, 0, 1078, 1055, 1056, 1005), (11, 32, 2, 2, 0, 1083, 1084, 1085, 1009), (2, 3, 0, 0, 0, 1086, 1028, 1029, 0), (2, 11, 1, 7, 1, 1089, 1090, 1091, 1010), (7, 1, 0, 0, 0, 1092, 1028, 1029, 0), (11, 35, 1, 0, 2, 1132, 1133, 1134, 1011), (0, 3, 0, 0, 0, 1135, 1028, 1029, 0), (0, 35, 1, 7, 1, 1137, 1090, 1091, 1010), (11, 58, 1, 7, 1, 1199, 1090, 1091, 1010), (11, 63, 2, 9, 0, 1202, 1203, 1204, 1012), (9, 3, 0, 0, 0, 1205, 1028, 1029, 0), (9, 11, 1, 7, 1, 1207, 1090, 1091, 1010), (17, 12, 1, 12, 0, 4227, 4228, 4229, 1013), (12, 1, 0, 0, 0, 4230, 1028, 1029, 0)]
def ct_nl : List (Nat × Nat × Nat) := [(11, 11, 5), (11, 14, 10), (10, 1, 5), (11, 17, 8), (8, 1, 5), (11, 20, 3), (3, 1, 5), (11, 23, 6), (6, 1, 10), (11, 26, 4), (4, 1, 8), (11, 29, 1), (1, 1, 3), (11, 32, 2), (11, 63, 9)]
def ct_fT : List (Nat × Nat × Nat × Nat × Nat) := [(7, 7, 7, 0, 1093), (7, 13, 7, 1, 1096), (7, 17, 7, 2, 1100), (2, 14, 2, 0, 1111), (2, 20, 2, 1, 1114), (2, 24, 2, 2, 1115), (2, 29, 2, 3, 1116), (2, 37, 2, 4, 1117), (0, 49, 0, 0, 1138), (0, 53, 0, 1, 1139), (0, 9, 0, 2, 1141), (0, 15, 0, 3, 1143), (0, 18, 0, 4, 1144), (0, 21, 0, 5, 1146), (0, 24, 0, 6, 1148), (0, 27, 0, 7, 1150), (0, 30, 0, 8, 1152), (0, 38, 0, 9, 1154), (0, 42, 0, 10, 1156), (0, 63, 0, 11, 1159), (0, 66, 0, 12, 1160), (0, 69, 0, 13, 1162), (0, 45, 0, 14, 1164), (9, 14, 9, 0, 1208), (11, 38, 11, 0, 1229), (11, 42, 11, 1, 1230), (11, 45, 11, 2, 1231), (11, 48, 11, 3, 1232), (11, 54, 11, 4, 1233), (11, 64, 11, 5, 1234), (11, 68, 11, 6, 1235), (11, 72, 11, 7, 1236), (11, 76, 11, 8, 1237), (11, 301, 11, 9, 1238), (12, 7, 12, 0, 4231), (12, 13, 12, 1, 4232), (12, 16, 12, 2, 4233), (12, 338, 12, 3, 4234), (12, 19, 12, 4, 4235), (12, 81, 12, 5, 4236), (12, 71, 12, 6, 4237), (12, 75, 12, 7, 4238), (12, 78, 12, 8, 4239), (12, 118, 12, 9, 5000), (12, 88, 12, 10, 5001), (12, 22, 12, 11, 5002), (12, 25, 12, 12, 5003), (12, 92, 12, 13, 5004), (12, 28, 12, 14, 5005), (12, 31, 12, 15, 5006), (12, 34, 12, 16, 5007), (12, 37, 12, 17, 5008), (12, 40, 12, 18, 5009), (12, 43, 12, 19, 5010), (12, 46, 12, 20, 5011), (12, 49, 12, 21, 5012), (12, 317, 12, 22, 5013), (12, 323, 12, 23, 5014), (12, 52, 12, 24, 5015), (12, 55, 12, 25, 5016), (12, 58, 12, 26, 5017), (12, 61, 12, 27, 5018)]
def ct_bT : List (List Value) := [[.null, .null, .null, .null, .null, .null, .null, .null, .null, .null, .null, .int 0, .int 0, .int 0, .int 0], [], [.null, .null, .null, .null, .int 0], [], [], [], [], [.null, .int 0, .int 0], [], [.null, .int 0, .int 0], [], [.null, .null, .null, .null, .null, .null, .null, .null, .null, .int 0], [.null, .null, .null, .int 0, .null, .int 0, .int 0, .int 0, .int 0, .int 0, .int 0, .null, .null, .int 0, .null, .null, .null, .null, .null, .null, .null, .null, .int 0, .int 0, .null, .null, .null, .null]]
def ct_cl : List Nat := [10, 8, 3, 6, 4, 1]
/-- what a constructor's world is made of: a class's number and its fields, or a kind of row, its length and what it holds -/
abbrev ct_H : Type := List (Nat × Nat × List Value)
abbrev ct_S : Type := Nat × List Value × List Value × ct_H × Nat × Nat
def ct_I (v : Value) : Int32 := match v with
  | .int x => x
  | _ => 0
def ct_R (ad : Nat → Nat) (v : Value) : Option Nat := match v with
  | .ref i => some (ad i)
  | _ => none
def ct_c (cs : Nat → ClassId) (ad : Nat → Nat) (c : Nat × Nat × List Value) : va_E :=
  if c.1 < 20 then .inr (c.1, c.2.2.map (gc_tr ad)) else if c.1 < 22 then .inl (cs (c.1 - 20), c.2.1, .inl (fun j => ct_I (c.2.2.getD j .null))) else .inl (cs (c.1 - 20), c.2.1, .inr (.inr (.inr (.inr (fun j => ct_R ad (c.2.2.getD j .null))))))
def ct_l (cs : Nat → ClassId) (ad : Nat → Nat) : Nat → ct_H → va_W
  | _, [] => []
  | a, c :: r => (ad a, ct_c cs ad c) :: ct_l cs ad (a + 1) r
def ct_set (l : List Value) (j : Nat) (v : Value) : List Value := (l ++ List.replicate (j + 1 - l.length) Value.null).set j v
def ct_y (M : Nat) : MethodName := (ct_mt M).1
def ct_nc (M : Nat) : Nat := (ct_mt M).2.2.2.2.1
def ct_ns (M : Nat) (a : List Value) : Nat := if M = 7 then (ct_I (a.getD 1 .null)).toNatClampNeg else (ct_mt M).2.2.2.2.2
def ct_n (k idx : Nat) : Option Nat := (ct_nT.find? (fun e => Nat.beq e.1 k && Nat.beq e.2.1 idx)).map (fun e => e.2.2.1)
def ct_k (k idx : Nat) : Option (Nat × Nat × Nat) := (ct_kT.find? (fun e => Nat.beq e.1 k && Nat.beq e.2.1 idx)).map (fun e => (e.2.2.1, e.2.2.2.1, e.2.2.2.2.1))
def ct_f (k idx : Nat) : Option (Nat × Nat) := (ct_fT.find? (fun e => Nat.beq e.1 k && Nat.beq e.2.1 idx)).map (fun e => (e.2.2.1, e.2.2.2.1))
def ct_tg (ci : Nat) : Nat := if ci = 5 then 22 else if ci = 2 then 23 else if ci = 7 then 24 else 0
def ct_vt (ty : Option FieldType) (v : Value) : Bool := match ty with
  | some .int => (match v with | .int _ => true | _ => false)
  | some (.object _) => (match v with | .ref _ => true | _ => false)
  | some (.array _) => (match v with | .ref _ => true | _ => false)
  | _ => false
def ct_ft (ci j : Nat) : Option FieldType := match vwCl[ci]? with
  | some (_, T, _) => parseFieldDescriptor (T j).2.2.1
  | none => none
def ct_as (ci t : Nat) : Bool := (Nat.beq t 22 && (Nat.beq ci 5 || ct_cl.contains ci)) || (Nat.beq t 23 && Nat.beq ci 2) || (Nat.beq t 24 && Nat.beq ci 7)
def ci_b {α : Type} (b : Bool) (o : Option α) : Option α := match b with
  | true => o
  | false => none
def ci_1i {α : Type} (st : List Value) (f : Int32 → List Value → Option α) : Option α := match st with
  | .int x :: r => f x r
  | _ => none
def ci_2i {α : Type} (st : List Value) (f : Int32 → Int32 → List Value → Option α) : Option α := match st with
  | .int y :: .int x :: r => f x y r
  | _ => none
def ci_1r {α : Type} (st : List Value) (f : Nat → List Value → Option α) : Option α := match st with
  | .ref x :: r => f x r
  | _ => none
def ci_vr {α : Type} (st : List Value) (f : Nat → Value → List Value → Option α) : Option α := match st with
  | v :: .ref o :: r => f o v r
  | _ => none
def ci_iir {α : Type} (st : List Value) (f : Nat → Int32 → Int32 → List Value → Option α) : Option α := match st with
  | .int x :: .int i :: .ref o :: r => f o i x r
  | _ => none
def ci_rir {α : Type} (st : List Value) (f : Nat → Int32 → Nat → List Value → Option α) : Option α := match st with
  | .ref v :: .int i :: .ref o :: r => f o i v r
  | _ => none
def ci_gi {α : Type} (L : List Value) (n : Nat) (f : Int32 → Option α) : Option α := match L[n]? with
  | some (.int x) => f x
  | _ => none
def ci_gr {α : Type} (L : List Value) (n : Nat) (f : Nat → Option α) : Option α := match L[n]? with
  | some (.ref x) => f x
  | _ => none
def ci_so {α : Type} (L : List Value) (n : Nat) (o : Option α) : Option α := match L[n]? with
  | some v => ci_b (gc_sk v) o
  | none => none
def ci_o {α β : Type} (o : Option β) (f : β → Option α) : Option α := match o with
  | some b => f b
  | none => none
def ci_in (i : Int32) (N : Nat) : Bool := !(decide (i < 0) || Nat.ble N i.toNatClampNeg)
def ci_al (x : Int32) (N nc ns cu su hl : Nat) : Bool := !decide (x < 0) && Nat.ble N 100000 && Nat.ble (cu + 1) nc && Nat.ble (su + N) ns && Nat.ble hl 998
def ct_st (Cc : Nat → List Value → ct_H → Option ct_H) (k nc ns pc len : Nat) (L st : List Value) (h : ct_H) (cu su : Nat) (i : Instr) : Option ct_S := match i with
  | .iconst n => ci_b (Nat.beq len 1) (some (pc + 1, L, .int (Int32.ofInt n) :: st, h, cu, su))
  | .bipush n => ci_b (Nat.beq len 2) (some (pc + 2, L, .int (Int8.ofInt n).toInt32 :: st, h, cu, su))
  | .sipush n => ci_b (Nat.beq len 3) (some (pc + 3, L, .int (Int16.ofInt n).toInt32 :: st, h, cu, su))
  | .iload_n n => ci_b (Nat.beq len 1) (ci_gi L n fun x => some (pc + 1, L, .int x :: st, h, cu, su))
  | .iload n => ci_b (Nat.beq len 2) (ci_gi L n fun x => some (pc + 2, L, .int x :: st, h, cu, su))
  | .aload_n n => ci_b (Nat.beq len 1) (ci_gr L n fun x => some (pc + 1, L, .ref x :: st, h, cu, su))
  | .istore_n n => ci_b (Nat.beq len 1) (ci_so L n (ci_1i st fun x r => some (pc + 1, L.set n (.int x), r, h, cu, su)))
  | .istore n => ci_b (Nat.beq len 2) (ci_so L n (ci_1i st fun x r => some (pc + 2, L.set n (.int x), r, h, cu, su)))
  | .astore_n n => ci_b (Nat.beq len 1) (ci_so L n (ci_1r st fun x r => some (pc + 1, L.set n (.ref x), r, h, cu, su)))
  | .iinc n z => ci_b (Nat.beq len 3) (ci_gi L n fun x => some (pc + 3, L.set n (.int (x + Int32.ofInt z)), st, h, cu, su))
  | .iadd => ci_b (Nat.beq len 1) (ci_2i st fun x y r => some (pc + 1, L, .int (x + y) :: r, h, cu, su))
  | .dup => ci_b (Nat.beq len 1) (ci_1r st fun x r => some (pc + 1, L, .ref x :: .ref x :: r, h, cu, su))
  | .if_icmp .ge off => ci_b (Nat.beq len 3 && decide (0 ≤ (pc : Int) + off)) (ci_2i st fun x y r => if y ≤ x then some (gc_tg pc off, L, r, h, cu, su) else some (pc + 3, L, r, h, cu, su))
  | .goto off => ci_b (Nat.beq len 3 && decide (0 ≤ (pc : Int) + off)) (some (gc_tg pc off, L, st, h, cu, su))
  | .ldc n => ci_b (Nat.beq len 2 && Nat.beq k 2 && Nat.beq n 27) (some (pc + 2, L, .ref 1000 :: st, h, cu, su))
  | .new n => ci_b (Nat.beq len 3) (ci_o (ct_n k n) fun ci => ci_o vwCl[ci]? fun q => ci_b (ci_al 0 q.2.2 nc ns cu su h.length) (some (pc + 3, L, .ref h.length :: st, h ++ [(ci, 0, ct_bT.getD ci [])], cu + 1, su + q.2.2)))
  | .newarray .int => ci_b (Nat.beq len 2) (ci_1i st fun x r => ci_b (ci_al x x.toNatClampNeg nc ns cu su h.length) (some (pc + 2, L, .ref h.length :: r, h ++ [(20, x.toNatClampNeg, [])], cu + 1, su + x.toNatClampNeg)))
  | .newarray .boolean => ci_b (Nat.beq len 2) (ci_1i st fun x r => ci_b (ci_al x x.toNatClampNeg nc ns cu su h.length) (some (pc + 2, L, .ref h.length :: r, h ++ [(21, x.toNatClampNeg, [])], cu + 1, su + x.toNatClampNeg)))
  | .anewarray n => ci_b (Nat.beq len 3) (ci_1i st fun x r => ci_o (ct_n k n) fun ci => ci_b ((Nat.beq ci 5 || Nat.beq ci 2 || Nat.beq ci 7) && ci_al x x.toNatClampNeg nc ns cu su h.length) (some (pc + 3, L, .ref h.length :: r, h ++ [(ct_tg ci, x.toNatClampNeg, [])], cu + 1, su + x.toNatClampNeg)))
  | .putfield n => ci_b (Nat.beq len 3) (ci_o (ct_f k n) fun q => ci_vr st fun o v r => ci_o h[o]? fun c => ci_b (Nat.beq c.1 q.1 && Nat.blt q.2 c.2.2.length && ct_vt (ct_ft q.1 q.2) v) (some (pc + 3, L, r, h.set o (c.1, c.2.1, c.2.2.set q.2 v), cu, su)))
  | .getfield n => ci_b (Nat.beq len 3) (ci_o (ct_f k n) fun q => ci_1r st fun o r => ci_o h[o]? fun c => ci_o c.2.2[q.2]? fun v => ci_b (Nat.beq c.1 q.1) (some (pc + 3, L, v :: r, h, cu, su)))
  | .iastore => ci_b (Nat.beq len 1) (ci_iir st fun o i x r => ci_o h[o]? fun c => ci_b (Nat.beq c.1 20 && ci_in i c.2.1) (some (pc + 1, L, r, h.set o (c.1, c.2.1, ct_set c.2.2 i.toNatClampNeg (.int x)), cu, su)))
  | .aastore => ci_b (Nat.beq len 1) (ci_rir st fun o i v r => ci_o h[o]? fun c => ci_o h[v]? fun c2 => ci_b (ct_as c2.1 c.1 && ci_in i c.2.1) (some (pc + 1, L, r, h.set o (c.1, c.2.1, ct_set c.2.2 i.toNatClampNeg (.ref v)), cu, su)))
  | .invokespecial n => ci_b (Nat.beq len 3) (ci_o (ct_k k n) fun q => match q.1 with
    | 0 => ci_1r st fun _ r => ci_b (gc_rl r) (some (pc + 3, L, r, h, cu, su))
    | _ + 1 => ci_1r (st.drop q.2.2) fun o r => ci_b (gc_rl r && Nat.ble q.2.2 st.length && Nat.ble (cu + ct_nc q.2.1) nc && Nat.ble (su + ct_ns q.2.1 (.ref o :: (st.take q.2.2).reverse)) ns) (ci_o (Cc q.2.1 (.ref o :: (st.take q.2.2).reverse) h) fun h' => some (pc + 3, L, r, h', cu + ct_nc q.2.1, su + ct_ns q.2.1 (.ref o :: (st.take q.2.2).reverse))))
  | _ => none
theorem ci_be {α : Type} {b : Bool} {o : Option α} {x : α} (h : ci_b b o = some x) : b = true ∧ o = some x := by cases b <;> first | (cases h; done) | exact ⟨rfl, h⟩
theorem ci_1ie {α : Type} {st : List Value} {f : Int32 → List Value → Option α} {x : α} (h : ci_1i st f = some x) : ∃ a r, st = .int a :: r ∧ f a r = some x := by
  unfold ci_1i at h; split at h <;> first | exact ⟨_, _, rfl, h⟩ | (cases h; done)
theorem ci_2ie {α : Type} {st : List Value} {f : Int32 → Int32 → List Value → Option α} {x : α} (h : ci_2i st f = some x) : ∃ a b r, st = .int b :: .int a :: r ∧ f a b r = some x := by
  unfold ci_2i at h; split at h <;> first | exact ⟨_, _, _, rfl, h⟩ | (cases h; done)
theorem ci_1re {α : Type} {st : List Value} {f : Nat → List Value → Option α} {x : α} (h : ci_1r st f = some x) : ∃ a r, st = .ref a :: r ∧ f a r = some x := by
  unfold ci_1r at h; split at h <;> first | exact ⟨_, _, rfl, h⟩ | exact ⟨_, _, by assumption, h⟩ | (cases h; done)
theorem ci_vre {α : Type} {st : List Value} {f : Nat → Value → List Value → Option α} {x : α} (h : ci_vr st f = some x) : ∃ o v r, st = v :: .ref o :: r ∧ f o v r = some x := by
  unfold ci_vr at h; split at h <;> first | exact ⟨_, _, _, rfl, h⟩ | (cases h; done)
theorem ci_iire {α : Type} {st : List Value} {f : Nat → Int32 → Int32 → List Value → Option α} {x : α} (h : ci_iir st f = some x) : ∃ o i a r, st = .int a :: .int i :: .ref o :: r ∧ f o i a r = some x := by
  unfold ci_iir at h; split at h <;> first | exact ⟨_, _, _, _, rfl, h⟩ | (cases h; done)
theorem ci_rire {α : Type} {st : List Value} {f : Nat → Int32 → Nat → List Value → Option α} {x : α} (h : ci_rir st f = some x) : ∃ o i a r, st = .ref a :: .int i :: .ref o :: r ∧ f o i a r = some x := by
  unfold ci_rir at h; split at h <;> first | exact ⟨_, _, _, _, rfl, h⟩ | (cases h; done)
theorem ci_gie {α : Type} {L : List Value} {n : Nat} {f : Int32 → Option α} {x : α} (h : ci_gi L n f = some x) : ∃ a, L[n]? = some (.int a) ∧ f a = some x := by
  unfold ci_gi at h; split at h <;> first | exact ⟨_, by assumption, h⟩ | (cases h; done)
theorem ci_gre {α : Type} {L : List Value} {n : Nat} {f : Nat → Option α} {x : α} (h : ci_gr L n f = some x) : ∃ a, L[n]? = some (.ref a) ∧ f a = some x := by
  unfold ci_gr at h; split at h <;> first | exact ⟨_, by assumption, h⟩ | (cases h; done)
theorem ci_soe {α : Type} {L : List Value} {n : Nat} {o : Option α} {x : α} (h : ci_so L n o = some x) : ∃ v, L[n]? = some v ∧ gc_sk v = true ∧ o = some x := by
  unfold ci_so at h; split at h <;> first | exact ⟨_, by assumption, (ci_be h).1, (ci_be h).2⟩ | (cases h; done)
theorem ci_oe {α β : Type} {o : Option β} {f : β → Option α} {x : α} (h : ci_o o f = some x) : ∃ b, o = some b ∧ f b = some x := by
  cases o <;> first | exact ⟨_, rfl, h⟩ | (cases h; done)
theorem ci_ine {i : Int32} {N : Nat} (h : ci_in i N = true) : vp_in i N := by
  unfold ci_in at h
  intro z
  rcases z with z | z
  · rw [decide_eq_true z] at h; cases h
  · rw [Nat.ble_eq.mpr z, Bool.or_true] at h; cases h
theorem ci_ale {x : Int32} {N nc ns cu su hl : Nat} (h : ci_al x N nc ns cu su hl = true) : ¬ x < 0 ∧ N ≤ 100000 ∧ cu + 1 ≤ nc ∧ su + N ≤ ns ∧ hl ≤ 998 := by
  unfold ci_al at h
  simp only [Bool.and_eq_true, Bool.not_eq_true', decide_eq_false_iff_not, Nat.ble_eq] at h
  exact ⟨h.1.1.1.1, h.1.1.1.2, h.1.1.2, h.1.2, h.2⟩
def ct_rn (Cc : Nat → List Value → ct_H → Option ct_H) (k : Nat) (cc : ByteArray) (stp nc ns : Nat) : Nat → ct_S → Option ct_S
  | 0, _ => none
  | f + 1, s => if s.1 = stp then some s else match decode cc s.1 with
    | .ok (i, len) => (match ct_st Cc k nc ns s.1 len s.2.1 s.2.2.1 s.2.2.2.1 s.2.2.2.2.1 s.2.2.2.2.2 i with | some s' => ct_rn Cc k cc stp nc ns f s' | none => none)
    | .error _ => none
def ct_rs (Cc : Nat → List Value → ct_H → Option ct_H) (k : Nat) (cc : ByteArray) (nc ns : Nat) : Nat → ct_S → Option ct_S
  | 0, s => some s
  | f + 1, s => match decode cc s.1 with
    | .ok (i, len) => (match ct_st Cc k nc ns s.1 len s.2.1 s.2.2.1 s.2.2.2.1 s.2.2.2.2.1 s.2.2.2.2.2 i with | some s' => ct_rs Cc k cc nc ns f s' | none => none)
    | .error _ => none
def ct_m : Nat → Nat → List Value → ct_H → Option ct_H
  | 0 => fun _ _ _ => none
  | d + 1 => fun M a h => match ct_rn (ct_m d) M (ct_mt M).2.1 (ct_mt M).2.2.2.1 (ct_nc M) (ct_ns M a) 400 (0, gc_pad (ct_mt M).2.2.1 (gc_en a), [], h, 0, 0) with
    | some (_, _, st, h', cu, su) => if st = [] ∧ h'.length ≤ 1000 ∧ (gc_en a).length ≤ (ct_mt M).2.2.1 ∧ cu ≤ ct_nc M ∧ su ≤ ct_ns M a then some h' else none
    | none => none
