/-! constructors: the tables -/
def ct_mT : List (MethodName × ByteArray × Nat × Nat × Nat × Nat) := [(yX0_init, cX0_init, 4, 122, 11, 146), (yX1_init, cX1_init, 1, 4, 0, 0), (yX2_init, cX2_init, 1, 39, 3, 103), (yX3_init, cX3_init, 1, 4, 0, 0), (yX4_init, cX4_init, 1, 4, 0, 0), (yX5_init, cX5_init, 1, 4, 0, 0), (yX6_init, cX6_init, 1, 4, 0, 0), (yX7_init, cX7_init, 2, 11, 1, 0), (yX8_init, cX8_init, 1, 4, 0, 0), (yX9_init, cX9_init, 1, 17, 2, 43), (yX10_init, cX10_init, 1, 4, 0, 0), (yX11_init, cX11_init, 5, 261, 82, 2337), (yX12_init, cX12_init, 2, 180, 18, 2044)]
def ct_mt (M : Nat) : MethodName × ByteArray × Nat × Nat × Nat × Nat := ct_mT.getD M (⟨"", "", ""⟩, ⟨#[]⟩, 0, 0, 0, 0)
def ct_mP : List Nat := [1134, 1077, 1085, 1056, 1070, 1035, 1063, 1091, 1049, 1204, 1042, 1026, 4229]
def ct_nT : List (Nat × Nat × Nat × Nat × Nat × Nat) := [(17, 7, 11, 1022, 1023, 1001), (11, 9, 5, 1030, 1032, 1002), (11, 12, 10, 1038, 1039, 1003), (11, 15, 8, 1045, 1046, 1004), (11, 18, 3, 1052, 1053, 1005), (11, 21, 6, 1059, 1060, 1006), (11, 24, 4, 1066, 1067, 1007), (11, 27, 1, 1073, 1074, 1008), (11, 30, 2, 1080, 1082, 1009), (2, 9, 7, 1087, 1088, 1010), (11, 33, 0, 1130, 1131, 1011), (0, 33, 7, 1136, 1088, 1010), (11, 52, 7, 1197, 1088, 1010), (11, 61, 9, 1200, 1201, 1012), (9, 9, 7, 1206, 1088, 1010), (17, 10, 12, 4225, 4226, 1013)]
def ct_kT : List (Nat × Nat × Nat × Nat × Nat × Nat × Nat × Nat × Nat) := [(17, 9, 1, 11, 0, 1024, 1025, 1026, 1001), (11, 3, 0, 0, 0, 1027, 1028, 1029, 0), (11, 11, 2, 5, 0, 1033, 1034, 1035, 1002), (5, 1, 0, 0, 0, 1036, 1028, 1029, 0), (11, 14, 2, 10, 0, 1040, 1041, 1042, 1003), (10, 1, 2, 5, 0, 1043, 1034, 1035, 1002), (11, 17, 2, 8, 0, 1047, 1048, 1049, 1004), (8, 1, 2, 5, 0, 1050, 1034, 1035, 1002), (11, 20, 2, 3, 0, 1054, 1055, 1056, 1005), (3, 1, 2, 5, 0, 1057, 1034, 1035, 1002), (11, 23, 2, 6, 0, 1061, 1062, 1063, 1006), (6, 1, 2, 10, 0, 1064, 1041, 1042, 1003), (11, 26, 2, 4, 0, 1068, 1069, 1070, 1007), (4, 1, 2, 8, 0, 1071, 1048, 1049, 1004), (11, 29, 2, 1, 0, 1075, 1076, 1077, 1008), (1, 1, 2, 3, 0, 1078, 1055, 1056, 1005), (11, 32, 2, 2, 0, 1083, 1084, 1085, 1009), (2, 3, 0, 0, 0, 1086, 1028, 1029, 0), (2, 11, 1, 7, 1, 1089, 1090, 1091, 1010), (7, 1, 0, 0, 0, 1092, 1028, 1029, 0), (11, 35, 1, 0, 2, 1132, 1133, 1134, 1011), (0, 3, 0, 0, 0, 1135, 1028, 1029, 0), (0, 35, 1, 7, 1, 1137, 1090, 1091, 1010), (11, 58, 1, 7, 1, 1199, 1090, 1091, 1010), (11, 63, 2, 9, 0, 1202, 1203, 1204, 1012), (9, 3, 0, 0, 0, 1205, 1028, 1029, 0), (9, 11, 1, 7, 1, 1207, 1090, 1091, 1010), (17, 12, 1, 12, 0, 4227, 4228, 4229, 1013), (12, 1, 0, 0, 0, 4230, 1028, 1029, 0)]
def ct_nl : List (Nat × Nat × Nat) := [(11, 11, 5), (11, 14, 10), (10, 1, 5), (11, 17, 8), (8, 1, 5), (11, 20, 3), (3, 1, 5), (11, 23, 6), (6, 1, 10), (11, 26, 4), (4, 1, 8), (11, 29, 1), (1, 1, 3), (11, 32, 2), (11, 63, 9)]
def ct_fT : List (Nat × Nat × Nat × Nat × Nat) := [(7, 7, 7, 0, 1093), (7, 13, 7, 1, 1096), (7, 17, 7, 2, 1100), (2, 14, 2, 0, 1111), (2, 20, 2, 1, 1114), (2, 24, 2, 2, 1115), (2, 29, 2, 3, 1116), (2, 37, 2, 4, 1117), (0, 49, 0, 0, 1138), (0, 53, 0, 1, 1139), (0, 9, 0, 2, 1141), (0, 15, 0, 3, 1143), (0, 18, 0, 4, 1144), (0, 21, 0, 5, 1146), (0, 24, 0, 6, 1148), (0, 27, 0, 7, 1150), (0, 30, 0, 8, 1152), (0, 38, 0, 9, 1154), (0, 42, 0, 10, 1156), (0, 63, 0, 11, 1159), (0, 66, 0, 12, 1160), (0, 69, 0, 13, 1162), (0, 45, 0, 14, 1164), (9, 14, 9, 0, 1208), (11, 38, 11, 0, 1229), (11, 42, 11, 1, 1230), (11, 45, 11, 2, 1231), (11, 48, 11, 3, 1232), (11, 54, 11, 4, 1233), (11, 64, 11, 5, 1234), (11, 68, 11, 6, 1235), (11, 72, 11, 7, 1236), (11, 76, 11, 8, 1237), (11, 301, 11, 9, 1238), (12, 7, 12, 0, 4231), (12, 13, 12, 1, 4232), (12, 16, 12, 2, 4233), (12, 338, 12, 3, 4234), (12, 19, 12, 4, 4235), (12, 81, 12, 5, 4236), (12, 71, 12, 6, 4237), (12, 75, 12, 7, 4238), (12, 78, 12, 8, 4239), (12, 118, 12, 9, 5000), (12, 88, 12, 10, 5001), (12, 22, 12, 11, 5002), (12, 25, 12, 12, 5003), (12, 92, 12, 13, 5004), (12, 28, 12, 14, 5005), (12, 31, 12, 15, 5006), (12, 34, 12, 16, 5007), (12, 37, 12, 17, 5008), (12, 40, 12, 18, 5009), (12, 43, 12, 19, 5010), (12, 46, 12, 20, 5011), (12, 49, 12, 21, 5012), (12, 317, 12, 22, 5013), (12, 323, 12, 23, 5014), (12, 52, 12, 24, 5015), (12, 55, 12, 25, 5016), (12, 58, 12, 26, 5017), (12, 61, 12, 27, 5018)]
def ct_bT : List (List Value) := [[.null, .null, .null, .null, .null, .null, .null, .null, .null, .null, .null, .int 0, .int 0, .int 0, .int 0], [], [.null, .null, .null, .null, .int 0], [], [], [], [], [.null, .int 0, .int 0], [], [.null, .int 0, .int 0], [], [.null, .null, .null, .null, .null, .null, .null, .null, .null, .int 0], [.null, .null, .null, .int 0, .null, .int 0, .int 0, .int 0, .int 0, .int 0, .int 0, .null, .null, .int 0, .null, .null, .null, .null, .null, .null, .null, .null, .int 0, .int 0, .null, .null, .null, .null]]
def ct_cl : List Nat := [10, 8, 3, 6, 4, 1]
/-- what a constructor's world is made of: a class's number and its fields, or a kind of row, its length and what it holds -/
abbrev ct_H : Type := List (Nat × Nat × List Value)
abbrev ct_S : Type := Nat × List Value × List Value × ct_H × Nat × Nat
def ct_I (v : Value) : Int32 := match v with
  | .int x => x
  | _ => 0
def ct_R (ad : Nat → Nat) (v : Value) : Option Nat := match v with
  | .ref i => some (ad i)
  | _ => none
def ct_c (cs : Nat → ClassId) (ad : Nat → Nat) (c : Nat × Nat × List Value) : va_E :=
  if c.1 < 20 then .inr (c.1, c.2.2.map (gc_tr ad)) else if c.1 < 22 then .inl (cs (c.1 - 20), c.2.1, .inl (fun j => ct_I (c.2.2.getD j .null))) else .inl (cs (c.1 - 20), c.2.1, .inr (.inr (.inr (.inr (fun j => ct_R ad (c.2.2.getD j .null))))))
def ct_l (cs : Nat → ClassId) (ad : Nat → Nat) : Nat → ct_H → va_W
  | _, [] => []
  | a, c :: r => (ad a, ct_c cs ad c) :: ct_l cs ad (a + 1) r
def ct_set (l : List Value) (j : Nat) (v : Value) : List Value := (l ++ List.replicate (j + 1 - l.length) Value.null).set j v
def ct_y (M : Nat) : MethodName := (ct_mt M).1
def ct_nc (M : Nat) : Nat := (ct_mt M).2.2.2.2.1
def ct_ns (M : Nat) (a : List Value) : Nat := if M = 7 then (ct_I (a.getD 1 .null)).toNatClampNeg else (ct_mt M).2.2.2.2.2
def ct_n (k idx : Nat) : Option Nat := (ct_nT.find? (fun e => Nat.beq e.1 k && Nat.beq e.2.1 idx)).map (fun e => e.2.2.1)
def ct_k (k idx : Nat) : Option (Nat × Nat × Nat) := (ct_kT.find? (fun e => Nat.beq e.1 k && Nat.beq e.2.1 idx)).map (fun e => (e.2.2.1, e.2.2.2.1, e.2.2.2.2.1))
def ct_f (k idx : Nat) : Option (Nat × Nat) := (ct_fT.find? (fun e => Nat.beq e.1 k && Nat.beq e.2.1 idx)).map (fun e => (e.2.2.1, e.2.2.2.1))
def ct_tg (ci : Nat) : Nat := if ci = 5 then 22 else if ci = 2 then 23 else if ci = 7 then 24 else 0
def ct_vt (ty : Option FieldType) (v : Value) : Bool := match ty with
  | some .int => (match v with | .int _ => true | _ => false)
  | some (.object _) => (match v with | .ref _ => true | _ => false)
  | some (.array _) => (match v with | .ref _ => true | _ => false)
  | _ => false
def ct_ft (ci j : Nat) : Option FieldType := match vwCl[ci]? with
  | some (_, T, _) => parseFieldDescriptor (T j).2.2.1
  | none => none
def ct_as (ci t : Nat) : Bool := (Nat.beq t 22 && (Nat.beq ci 5 || ct_cl.contains ci)) || (Nat.beq t 23 && Nat.beq ci 2) || (Nat.beq t 24 && Nat.beq ci 7)
def ct_st (Cc : Nat → List Value → ct_H → Option ct_H) (k nc ns pc len : Nat) (L st : List Value) (h : ct_H) (cu su : Nat) (i : Instr) : Option ct_S := match i with
  | .iconst n => if len = 1 then some (pc + 1, L, .int (Int32.ofInt n) :: st, h, cu, su) else none
  | .bipush n => if len = 2 then some (pc + 2, L, .int (Int8.ofInt n).toInt32 :: st, h, cu, su) else none
  | .sipush n => if len = 3 then some (pc + 3, L, .int (Int16.ofInt n).toInt32 :: st, h, cu, su) else none
  | .iload_n n => if len = 1 then (match L[n]? with | some (.int x) => some (pc + 1, L, .int x :: st, h, cu, su) | _ => none) else none
  | .iload n => if len = 2 then (match L[n]? with | some (.int x) => some (pc + 2, L, .int x :: st, h, cu, su) | _ => none) else none
  | .aload_n n => if len = 1 then (match L[n]? with | some (.ref x) => some (pc + 1, L, .ref x :: st, h, cu, su) | _ => none) else none
  | .istore_n n => if len = 1 then (match st with | .int x :: r => (match L[n]? with | some v => if gc_sk v = true then some (pc + 1, L.set n (.int x), r, h, cu, su) else none | none => none) | _ => none) else none
  | .istore n => if len = 2 then (match st with | .int x :: r => (match L[n]? with | some v => if gc_sk v = true then some (pc + 2, L.set n (.int x), r, h, cu, su) else none | none => none) | _ => none) else none
  | .astore_n n => if len = 1 then (match st with | .ref x :: r => (match L[n]? with | some v => if gc_sk v = true then some (pc + 1, L.set n (.ref x), r, h, cu, su) else none | none => none) | _ => none) else none
  | .iinc n z => if len = 3 then (match L[n]? with | some (.int x) => some (pc + 3, L.set n (.int (x + Int32.ofInt z)), st, h, cu, su) | _ => none) else none
  | .iadd => if len = 1 then (match st with | .int y :: .int x :: r => some (pc + 1, L, .int (x + y) :: r, h, cu, su) | _ => none) else none
  | .dup => if len = 1 then (match st with | .ref x :: r => some (pc + 1, L, .ref x :: .ref x :: r, h, cu, su) | _ => none) else none
  | .if_icmp .ge off => if len = 3 ∧ 0 ≤ (pc : Int) + off then (match st with | .int y :: .int x :: r => if y ≤ x then some (gc_tg pc off, L, r, h, cu, su) else some (pc + 3, L, r, h, cu, su) | _ => none) else none
  | .goto off => if len = 3 ∧ 0 ≤ (pc : Int) + off then some (gc_tg pc off, L, st, h, cu, su) else none
  | .ldc n => if len = 2 ∧ k = 2 ∧ n = 27 then some (pc + 2, L, .ref 1000 :: st, h, cu, su) else none
  | .new n => if len = 3 then (match ct_n k n with | some ci => (match vwCl[ci]? with | some q => if cu + 1 ≤ nc ∧ su + q.2.2 ≤ ns ∧ h.length < 999 then some (pc + 3, L, .ref h.length :: st, h ++ [(ci, 0, ct_bT.getD ci [])], cu + 1, su + q.2.2) else none | none => none) | none => none) else none
  | .newarray .int => if len = 2 then (match st with | .int x :: r => if ¬ x < 0 ∧ x.toNatClampNeg ≤ 100000 ∧ cu + 1 ≤ nc ∧ su + x.toNatClampNeg ≤ ns ∧ h.length < 999 then some (pc + 2, L, .ref h.length :: r, h ++ [(20, x.toNatClampNeg, [])], cu + 1, su + x.toNatClampNeg) else none | _ => none) else none
  | .newarray .boolean => if len = 2 then (match st with | .int x :: r => if ¬ x < 0 ∧ x.toNatClampNeg ≤ 100000 ∧ cu + 1 ≤ nc ∧ su + x.toNatClampNeg ≤ ns ∧ h.length < 999 then some (pc + 2, L, .ref h.length :: r, h ++ [(21, x.toNatClampNeg, [])], cu + 1, su + x.toNatClampNeg) else none | _ => none) else none
  | .anewarray n => if len = 3 then (match st with | .int x :: r => (match ct_n k n with | some ci => if (ci = 5 ∨ ci = 2 ∨ ci = 7) ∧ ¬ x < 0 ∧ x.toNatClampNeg ≤ 100000 ∧ cu + 1 ≤ nc ∧ su + x.toNatClampNeg ≤ ns ∧ h.length < 999 then some (pc + 3, L, .ref h.length :: r, h ++ [(ct_tg ci, x.toNatClampNeg, [])], cu + 1, su + x.toNatClampNeg) else none | none => none) | _ => none) else none
  | .putfield n => if len = 3 then (match ct_f k n with | some (ci, j) => (match st with | v :: .ref o :: r => (match h[o]? with | some (t, m, fs) => if t = ci ∧ j < fs.length ∧ ct_vt (ct_ft ci j) v = true then some (pc + 3, L, r, h.set o (t, m, fs.set j v), cu, su) else none | none => none) | _ => none) | none => none) else none
  | .getfield n => if len = 3 then (match ct_f k n with | some (ci, j) => (match st with | .ref o :: r => (match h[o]? with | some (t, m, fs) => (match fs[j]? with | some v => if t = ci then some (pc + 3, L, v :: r, h, cu, su) else none | none => none) | none => none) | _ => none) | none => none) else none
  | .iastore => if len = 1 then (match st with | .int x :: .int i :: .ref o :: r => (match h[o]? with | some (t, N, l) => if t = 20 ∧ ¬ (i < 0 ∨ N ≤ i.toNatClampNeg) then some (pc + 1, L, r, h.set o (t, N, ct_set l i.toNatClampNeg (.int x)), cu, su) else none | none => none) | _ => none) else none
  | .aastore => if len = 1 then (match st with | .ref v :: .int i :: .ref o :: r => (match h[o]? with | some (t, N, l) => (match h[v]? with | some (ci, _, _) => if ct_as ci t = true ∧ ¬ (i < 0 ∨ N ≤ i.toNatClampNeg) then some (pc + 1, L, r, h.set o (t, N, ct_set l i.toNatClampNeg (.ref v)), cu, su) else none | none => none) | none => none) | _ => none) else none
  | .invokespecial n => if len = 3 then (match ct_k k n with
    | some (0, _, _) => (match st with | .ref _ :: r => if gc_rl r = true then some (pc + 3, L, r, h, cu, su) else none | _ => none)
    | some (_ + 1, M, n) => (match st.drop n with | .ref o :: r => if gc_rl r = true ∧ n ≤ st.length ∧ cu + ct_nc M ≤ nc ∧ su + ct_ns M (.ref o :: (st.take n).reverse) ≤ ns then (match Cc M (.ref o :: (st.take n).reverse) h with | some h' => some (pc + 3, L, r, h', cu + ct_nc M, su + ct_ns M (.ref o :: (st.take n).reverse)) | none => none) else none | _ => none)
    | none => none) else none
  | _ => none
def ct_rn (Cc : Nat → List Value → ct_H → Option ct_H) (k : Nat) (cc : ByteArray) (stp nc ns : Nat) : Nat → ct_S → Option ct_S
  | 0, _ => none
  | f + 1, s => if s.1 = stp then some s else match decode cc s.1 with
    | .ok (i, len) => (match ct_st Cc k nc ns s.1 len s.2.1 s.2.2.1 s.2.2.2.1 s.2.2.2.2.1 s.2.2.2.2.2 i with | some s' => ct_rn Cc k cc stp nc ns f s' | none => none)
    | .error _ => none
def ct_m : Nat → Nat → List Value → ct_H → Option ct_H
  | 0 => fun _ _ _ => none
  | d + 1 => fun M a h => match ct_rn (ct_m d) M (ct_mt M).2.1 (ct_mt M).2.2.2.1 (ct_nc M) (ct_ns M a) 400 (0, gc_pad (ct_mt M).2.2.1 (gc_en a), [], h, 0, 0) with
    | some (_, _, st, h', cu, su) => if st = [] ∧ h'.length ≤ 1000 ∧ (gc_en a).length ≤ (ct_mt M).2.2.1 ∧ cu ≤ ct_nc M ∧ su ≤ ct_ns M a then some h' else none
    | none => none
/-- the law makes both -/
def ct_lw : Option ct_S := ct_rn (ct_m 4) 17 code 18 200 10000 400 (0, gc_pad 4 [.ref 1001], [], [], 0, 0)
