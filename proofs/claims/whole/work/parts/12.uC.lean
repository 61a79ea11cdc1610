theorem dX11_held_0 : decode cX11_held 0 = .ok (.iconst 0, 1) := by decide +kernel
theorem dX11_held_1 : decode cX11_held 1 = .ok (.bipush 99, 2) := by decide +kernel
theorem dX11_held_3 : decode cX11_held 3 = .ok (.iload_n 0, 1) := by decide +kernel
theorem dX11_held_4 : decode cX11_held 4 = .ok (.invokestatic 292, 3) := by decide +kernel
theorem dX11_held_7 : decode cX11_held 7 = .ok (.invokestatic 313, 3) := by decide +kernel
theorem dX11_held_10 : decode cX11_held 10 = .ok (.ireturn, 1) := by decide +kernel
theorem u12_0 {d : Nat} {R : gR} {μ : gM} {L : List Value} {st : List Value}   : gc_W (gc_S d) cX11_held 11 0 R 0 L st μ ↔ gc_W (gc_S d) cX11_held 11 0 R 1 L (.int 0 :: st) μ := us_iconst dX11_held_0 ci_iconst_0
theorem u12_1 {d : Nat} {R : gR} {μ : gM} {L : List Value} {st : List Value}   : gc_W (gc_S d) cX11_held 11 0 R 1 L st μ ↔ gc_W (gc_S d) cX11_held 11 0 R 3 L (.int 99 :: st) μ := us_bipush dX11_held_1 ci_bipush_99
theorem u12_3 {d : Nat} {R : gR} {μ : gM} {st : List Value} {x : Int32}  : gc_W (gc_S d) cX11_held 11 0 R 3 [.int x] st μ ↔ gc_W (gc_S d) cX11_held 11 0 R 4 [.int x] (.int x :: st) μ := us_iload_n dX11_held_3 rfl
theorem u12_4 {d : Nat} {R : gR} {μ : gM} {L : List Value} {x y : Int32} {s0 : Value}  : gc_W (gc_S d) cX11_held 11 0 R 4 L [.int y, .int x, s0] μ ↔ gc_W (gc_S d) cX11_held 11 0 R 7 L [.int (if y < x then y else x), s0] μ := us_min dX11_held_4 gs_11_292 rfl
theorem u12_7 {d : Nat} {R : gR} {μ : gM} {L : List Value} {x y : Int32}  : gc_W (gc_S d) cX11_held 11 0 R 7 L [.int y, .int x] μ ↔ gc_W (gc_S d) cX11_held 11 0 R 10 L [.int (if x < y then y else x)] μ := us_max dX11_held_7 gs_11_313 rfl
theorem u12_10 {d : Nat} {R : gR} {μ : gM} {L : List Value} {v : Int32}  : gc_W (gc_S d) cX11_held 11 0 R 10 L [.int v] μ ↔ R (some (.int v)) μ := us_iret dX11_held_10 rfl
theorem s12 {d : Nat} {R : gR} {μ : gM} {a0 : Int32} : gc_S (d + 1) 12 [.int a0] μ R ↔ gc_W (gc_S d) cX11_held 11 0 R 0 [.int a0] [] μ := us_call (gm_12) rfl rfl
theorem dX11_spread_0 : decode cX11_spread 0 = .ok (.iload_n 0, 1) := by decide +kernel
theorem dX11_spread_1 : decode cX11_spread 1 = .ok (.ldc_w 316, 3) := by decide +kernel
theorem dX11_spread_4 : decode cX11_spread 4 = .ok (.iand, 1) := by decide +kernel
theorem dX11_spread_5 : decode cX11_spread 5 = .ok (.iconst 1, 1) := by decide +kernel
theorem dX11_spread_6 : decode cX11_spread 6 = .ok (.ishl, 1) := by decide +kernel
theorem dX11_spread_7 : decode cX11_spread 7 = .ok (.iload_n 0, 1) := by decide +kernel
theorem dX11_spread_8 : decode cX11_spread 8 = .ok (.sipush (-4370), 3) := by decide +kernel
theorem dX11_spread_11 : decode cX11_spread 11 = .ok (.iand, 1) := by decide +kernel
theorem dX11_spread_12 : decode cX11_spread 12 = .ok (.iconst 1, 1) := by decide +kernel
theorem dX11_spread_13 : decode cX11_spread 13 = .ok (.ishr, 1) := by decide +kernel
theorem dX11_spread_14 : decode cX11_spread 14 = .ok (.ior, 1) := by decide +kernel
theorem dX11_spread_15 : decode cX11_spread 15 = .ok (.istore_n 1, 1) := by decide +kernel
theorem dX11_spread_16 : decode cX11_spread 16 = .ok (.iload_n 0, 1) := by decide +kernel
theorem dX11_spread_17 : decode cX11_spread 17 = .ok (.iconst 4, 1) := by decide +kernel
theorem dX11_spread_18 : decode cX11_spread 18 = .ok (.ishl, 1) := by decide +kernel
theorem dX11_spread_19 : decode cX11_spread 19 = .ok (.ldc_w 317, 3) := by decide +kernel
theorem dX11_spread_22 : decode cX11_spread 22 = .ok (.iand, 1) := by decide +kernel
theorem dX11_spread_23 : decode cX11_spread 23 = .ok (.iload_n 0, 1) := by decide +kernel
theorem dX11_spread_24 : decode cX11_spread 24 = .ok (.iconst 4, 1) := by decide +kernel
theorem dX11_spread_25 : decode cX11_spread 25 = .ok (.ishr, 1) := by decide +kernel
theorem dX11_spread_26 : decode cX11_spread 26 = .ok (.ior, 1) := by decide +kernel
theorem dX11_spread_27 : decode cX11_spread 27 = .ok (.istore_n 2, 1) := by decide +kernel
theorem dX11_spread_28 : decode cX11_spread 28 = .ok (.iload_n 0, 1) := by decide +kernel
theorem dX11_spread_29 : decode cX11_spread 29 = .ok (.iload_n 1, 1) := by decide +kernel
theorem dX11_spread_30 : decode cX11_spread 30 = .ok (.ior, 1) := by decide +kernel
theorem dX11_spread_31 : decode cX11_spread 31 = .ok (.iload_n 2, 1) := by decide +kernel
theorem dX11_spread_32 : decode cX11_spread 32 = .ok (.ior, 1) := by decide +kernel
theorem dX11_spread_33 : decode cX11_spread 33 = .ok (.ireturn, 1) := by decide +kernel
theorem u28_0 {d : Nat} {R : gR} {μ : gM} {l1 l2 : Value} {st : List Value} {x : Int32}  : gc_W (gc_S d) cX11_spread 11 0 R 0 [.int x, l1, l2] st μ ↔ gc_W (gc_S d) cX11_spread 11 0 R 1 [.int x, l1, l2] (.int x :: st) μ := us_iload_n dX11_spread_0 rfl
theorem u28_1 {d : Nat} {R : gR} {μ : gM} {L : List Value} {st : List Value}   : gc_W (gc_S d) cX11_spread 11 0 R 1 L st μ ↔ gc_W (gc_S d) cX11_spread 11 0 R 4 L (.int (-34953) :: st) μ := us_ldcw dX11_spread_1 gk_11_316
theorem u28_4 {d : Nat} {R : gR} {μ : gM} {L : List Value} {st : List Value} {x y : Int32}  : gc_W (gc_S d) cX11_spread 11 0 R 4 L (.int y :: .int x :: st) μ ↔ gc_W (gc_S d) cX11_spread 11 0 R 5 L (.int (x &&& y) :: st) μ := us_iand dX11_spread_4
theorem u28_5 {d : Nat} {R : gR} {μ : gM} {L : List Value} {st : List Value}   : gc_W (gc_S d) cX11_spread 11 0 R 5 L st μ ↔ gc_W (gc_S d) cX11_spread 11 0 R 6 L (.int 1 :: st) μ := us_iconst dX11_spread_5 ci_iconst_1
theorem u28_6 {d : Nat} {R : gR} {μ : gM} {L : List Value} {st : List Value} {x y : Int32}  : gc_W (gc_S d) cX11_spread 11 0 R 6 L (.int y :: .int x :: st) μ ↔ gc_W (gc_S d) cX11_spread 11 0 R 7 L (.int (x <<< (y &&& 31)) :: st) μ := us_ishl dX11_spread_6
theorem u28_7 {d : Nat} {R : gR} {μ : gM} {l1 l2 : Value} {st : List Value} {x : Int32}  : gc_W (gc_S d) cX11_spread 11 0 R 7 [.int x, l1, l2] st μ ↔ gc_W (gc_S d) cX11_spread 11 0 R 8 [.int x, l1, l2] (.int x :: st) μ := us_iload_n dX11_spread_7 rfl
theorem u28_8 {d : Nat} {R : gR} {μ : gM} {L : List Value} {st : List Value}   : gc_W (gc_S d) cX11_spread 11 0 R 8 L st μ ↔ gc_W (gc_S d) cX11_spread 11 0 R 11 L (.int (-4370) :: st) μ := us_sipush dX11_spread_8 ci_sipush_m4370
theorem u28_11 {d : Nat} {R : gR} {μ : gM} {L : List Value} {st : List Value} {x y : Int32}  : gc_W (gc_S d) cX11_spread 11 0 R 11 L (.int y :: .int x :: st) μ ↔ gc_W (gc_S d) cX11_spread 11 0 R 12 L (.int (x &&& y) :: st) μ := us_iand dX11_spread_11
theorem u28_12 {d : Nat} {R : gR} {μ : gM} {L : List Value} {st : List Value}   : gc_W (gc_S d) cX11_spread 11 0 R 12 L st μ ↔ gc_W (gc_S d) cX11_spread 11 0 R 13 L (.int 1 :: st) μ := us_iconst dX11_spread_12 ci_iconst_1
theorem u28_13 {d : Nat} {R : gR} {μ : gM} {L : List Value} {st : List Value} {x y : Int32}  : gc_W (gc_S d) cX11_spread 11 0 R 13 L (.int y :: .int x :: st) μ ↔ gc_W (gc_S d) cX11_spread 11 0 R 14 L (.int (x >>> (y &&& 31)) :: st) μ := us_ishr dX11_spread_13
theorem u28_14 {d : Nat} {R : gR} {μ : gM} {L : List Value} {st : List Value} {x y : Int32}  : gc_W (gc_S d) cX11_spread 11 0 R 14 L (.int y :: .int x :: st) μ ↔ gc_W (gc_S d) cX11_spread 11 0 R 15 L (.int (x ||| y) :: st) μ := us_ior dX11_spread_14
theorem u28_15 {d : Nat} {R : gR} {μ : gM} {l0 l1 l2 : Value} {st : List Value} {x : Int32} (hs : gc_sk l1 = true) : gc_W (gc_S d) cX11_spread 11 0 R 15 [l0, l1, l2] (.int x :: st) μ ↔ gc_W (gc_S d) cX11_spread 11 0 R 16 [l0, .int x, l2] st μ := us_istore_n dX11_spread_15 rfl hs
theorem u28_16 {d : Nat} {R : gR} {μ : gM} {l1 l2 : Value} {st : List Value} {x : Int32}  : gc_W (gc_S d) cX11_spread 11 0 R 16 [.int x, l1, l2] st μ ↔ gc_W (gc_S d) cX11_spread 11 0 R 17 [.int x, l1, l2] (.int x :: st) μ := us_iload_n dX11_spread_16 rfl
theorem u28_17 {d : Nat} {R : gR} {μ : gM} {L : List Value} {st : List Value}   : gc_W (gc_S d) cX11_spread 11 0 R 17 L st μ ↔ gc_W (gc_S d) cX11_spread 11 0 R 18 L (.int 4 :: st) μ := us_iconst dX11_spread_17 ci_iconst_4
theorem u28_18 {d : Nat} {R : gR} {μ : gM} {L : List Value} {st : List Value} {x y : Int32}  : gc_W (gc_S d) cX11_spread 11 0 R 18 L (.int y :: .int x :: st) μ ↔ gc_W (gc_S d) cX11_spread 11 0 R 19 L (.int (x <<< (y &&& 31)) :: st) μ := us_ishl dX11_spread_18
theorem u28_19 {d : Nat} {R : gR} {μ : gM} {L : List Value} {st : List Value}   : gc_W (gc_S d) cX11_spread 11 0 R 19 L st μ ↔ gc_W (gc_S d) cX11_spread 11 0 R 22 L (.int 65535 :: st) μ := us_ldcw dX11_spread_19 gk_11_317
theorem u28_22 {d : Nat} {R : gR} {μ : gM} {L : List Value} {st : List Value} {x y : Int32}  : gc_W (gc_S d) cX11_spread 11 0 R 22 L (.int y :: .int x :: st) μ ↔ gc_W (gc_S d) cX11_spread 11 0 R 23 L (.int (x &&& y) :: st) μ := us_iand dX11_spread_22
theorem u28_23 {d : Nat} {R : gR} {μ : gM} {l1 l2 : Value} {st : List Value} {x : Int32}  : gc_W (gc_S d) cX11_spread 11 0 R 23 [.int x, l1, l2] st μ ↔ gc_W (gc_S d) cX11_spread 11 0 R 24 [.int x, l1, l2] (.int x :: st) μ := us_iload_n dX11_spread_23 rfl
theorem u28_24 {d : Nat} {R : gR} {μ : gM} {L : List Value} {st : List Value}   : gc_W (gc_S d) cX11_spread 11 0 R 24 L st μ ↔ gc_W (gc_S d) cX11_spread 11 0 R 25 L (.int 4 :: st) μ := us_iconst dX11_spread_24 ci_iconst_4
theorem u28_25 {d : Nat} {R : gR} {μ : gM} {L : List Value} {st : List Value} {x y : Int32}  : gc_W (gc_S d) cX11_spread 11 0 R 25 L (.int y :: .int x :: st) μ ↔ gc_W (gc_S d) cX11_spread 11 0 R 26 L (.int (x >>> (y &&& 31)) :: st) μ := us_ishr dX11_spread_25
theorem u28_26 {d : Nat} {R : gR} {μ : gM} {L : List Value} {st : List Value} {x y : Int32}  : gc_W (gc_S d) cX11_spread 11 0 R 26 L (.int y :: .int x :: st) μ ↔ gc_W (gc_S d) cX11_spread 11 0 R 27 L (.int (x ||| y) :: st) μ := us_ior dX11_spread_26
theorem u28_27 {d : Nat} {R : gR} {μ : gM} {l0 l1 l2 : Value} {st : List Value} {x : Int32} (hs : gc_sk l2 = true) : gc_W (gc_S d) cX11_spread 11 0 R 27 [l0, l1, l2] (.int x :: st) μ ↔ gc_W (gc_S d) cX11_spread 11 0 R 28 [l0, l1, .int x] st μ := us_istore_n dX11_spread_27 rfl hs
theorem u28_28 {d : Nat} {R : gR} {μ : gM} {l1 l2 : Value} {st : List Value} {x : Int32}  : gc_W (gc_S d) cX11_spread 11 0 R 28 [.int x, l1, l2] st μ ↔ gc_W (gc_S d) cX11_spread 11 0 R 29 [.int x, l1, l2] (.int x :: st) μ := us_iload_n dX11_spread_28 rfl
theorem u28_29 {d : Nat} {R : gR} {μ : gM} {l0 l2 : Value} {st : List Value} {x : Int32}  : gc_W (gc_S d) cX11_spread 11 0 R 29 [l0, .int x, l2] st μ ↔ gc_W (gc_S d) cX11_spread 11 0 R 30 [l0, .int x, l2] (.int x :: st) μ := us_iload_n dX11_spread_29 rfl
theorem u28_30 {d : Nat} {R : gR} {μ : gM} {L : List Value} {st : List Value} {x y : Int32}  : gc_W (gc_S d) cX11_spread 11 0 R 30 L (.int y :: .int x :: st) μ ↔ gc_W (gc_S d) cX11_spread 11 0 R 31 L (.int (x ||| y) :: st) μ := us_ior dX11_spread_30
theorem u28_31 {d : Nat} {R : gR} {μ : gM} {l0 l1 : Value} {st : List Value} {x : Int32}  : gc_W (gc_S d) cX11_spread 11 0 R 31 [l0, l1, .int x] st μ ↔ gc_W (gc_S d) cX11_spread 11 0 R 32 [l0, l1, .int x] (.int x :: st) μ := us_iload_n dX11_spread_31 rfl
theorem u28_32 {d : Nat} {R : gR} {μ : gM} {L : List Value} {st : List Value} {x y : Int32}  : gc_W (gc_S d) cX11_spread 11 0 R 32 L (.int y :: .int x :: st) μ ↔ gc_W (gc_S d) cX11_spread 11 0 R 33 L (.int (x ||| y) :: st) μ := us_ior dX11_spread_32
theorem u28_33 {d : Nat} {R : gR} {μ : gM} {L : List Value} {v : Int32}  : gc_W (gc_S d) cX11_spread 11 0 R 33 L [.int v] μ ↔ R (some (.int v)) μ := us_iret dX11_spread_33 rfl
theorem s28 {d : Nat} {R : gR} {μ : gM} {a0 : Int32} : gc_S (d + 1) 28 [.int a0] μ R ↔ gc_W (gc_S d) cX11_spread 11 0 R 0 [.int a0, .retAddr 0, .retAddr 0] [] μ := us_call (gm_28) rfl rfl
theorem dX11_beside_0 : decode cX11_beside 0 = .ok (.iconst 1, 1) := by decide +kernel
theorem dX11_beside_1 : decode cX11_beside 1 = .ok (.iload_n 0, 1) := by decide +kernel
theorem dX11_beside_2 : decode cX11_beside 2 = .ok (.ishl, 1) := by decide +kernel
theorem dX11_beside_3 : decode cX11_beside 3 = .ok (.istore_n 1, 1) := by decide +kernel
theorem dX11_beside_4 : decode cX11_beside 4 = .ok (.iload_n 1, 1) := by decide +kernel
theorem dX11_beside_5 : decode cX11_beside 5 = .ok (.invokestatic 217, 3) := by decide +kernel
theorem dX11_beside_8 : decode cX11_beside 8 = .ok (.iload_n 1, 1) := by decide +kernel
theorem dX11_beside_9 : decode cX11_beside 9 = .ok (.iconst (-1), 1) := by decide +kernel
theorem dX11_beside_10 : decode cX11_beside 10 = .ok (.ixor, 1) := by decide +kernel
theorem dX11_beside_11 : decode cX11_beside 11 = .ok (.iand, 1) := by decide +kernel
theorem dX11_beside_12 : decode cX11_beside 12 = .ok (.ireturn, 1) := by decide +kernel
theorem u29_0 {d : Nat} {R : gR} {μ : gM} {L : List Value} {st : List Value}   : gc_W (gc_S d) cX11_beside 11 0 R 0 L st μ ↔ gc_W (gc_S d) cX11_beside 11 0 R 1 L (.int 1 :: st) μ := us_iconst dX11_beside_0 ci_iconst_1
theorem u29_1 {d : Nat} {R : gR} {μ : gM} {l1 : Value} {st : List Value} {x : Int32}  : gc_W (gc_S d) cX11_beside 11 0 R 1 [.int x, l1] st μ ↔ gc_W (gc_S d) cX11_beside 11 0 R 2 [.int x, l1] (.int x :: st) μ := us_iload_n dX11_beside_1 rfl
theorem u29_2 {d : Nat} {R : gR} {μ : gM} {L : List Value} {st : List Value} {x y : Int32}  : gc_W (gc_S d) cX11_beside 11 0 R 2 L (.int y :: .int x :: st) μ ↔ gc_W (gc_S d) cX11_beside 11 0 R 3 L (.int (x <<< (y &&& 31)) :: st) μ := us_ishl dX11_beside_2
theorem u29_3 {d : Nat} {R : gR} {μ : gM} {l0 l1 : Value} {st : List Value} {x : Int32} (hs : gc_sk l1 = true) : gc_W (gc_S d) cX11_beside 11 0 R 3 [l0, l1] (.int x :: st) μ ↔ gc_W (gc_S d) cX11_beside 11 0 R 4 [l0, .int x] st μ := us_istore_n dX11_beside_3 rfl hs
theorem u29_4 {d : Nat} {R : gR} {μ : gM} {l0 : Value} {st : List Value} {x : Int32}  : gc_W (gc_S d) cX11_beside 11 0 R 4 [l0, .int x] st μ ↔ gc_W (gc_S d) cX11_beside 11 0 R 5 [l0, .int x] (.int x :: st) μ := us_iload_n dX11_beside_4 rfl
theorem u29_5 {d : Nat} {R : gR} {μ : gM} {L : List Value}  {a0 : Int32}  : gc_W (gc_S d) cX11_beside 11 0 R 5 L [.int a0] μ ↔ gc_S d 28 [.int a0] μ (fun v μ' => gc_W (gc_S d) cX11_beside 11 0 R 8 L (v.toList ++ []) μ') := us_stat dX11_beside_5 gs_11_217 gne_11_217 gn_11_217 gc_11_217_97 rfl rfl rfl rfl
theorem u29_8 {d : Nat} {R : gR} {μ : gM} {l0 : Value} {st : List Value} {x : Int32}  : gc_W (gc_S d) cX11_beside 11 0 R 8 [l0, .int x] st μ ↔ gc_W (gc_S d) cX11_beside 11 0 R 9 [l0, .int x] (.int x :: st) μ := us_iload_n dX11_beside_8 rfl
theorem u29_9 {d : Nat} {R : gR} {μ : gM} {L : List Value} {st : List Value}   : gc_W (gc_S d) cX11_beside 11 0 R 9 L st μ ↔ gc_W (gc_S d) cX11_beside 11 0 R 10 L (.int (-1) :: st) μ := us_iconst dX11_beside_9 ci_iconst_m1
theorem u29_10 {d : Nat} {R : gR} {μ : gM} {L : List Value} {st : List Value} {x y : Int32}  : gc_W (gc_S d) cX11_beside 11 0 R 10 L (.int y :: .int x :: st) μ ↔ gc_W (gc_S d) cX11_beside 11 0 R 11 L (.int (x ^^^ y) :: st) μ := us_ixor dX11_beside_10
theorem u29_11 {d : Nat} {R : gR} {μ : gM} {L : List Value} {st : List Value} {x y : Int32}  : gc_W (gc_S d) cX11_beside 11 0 R 11 L (.int y :: .int x :: st) μ ↔ gc_W (gc_S d) cX11_beside 11 0 R 12 L (.int (x &&& y) :: st) μ := us_iand dX11_beside_11
theorem u29_12 {d : Nat} {R : gR} {μ : gM} {L : List Value} {v : Int32}  : gc_W (gc_S d) cX11_beside 11 0 R 12 L [.int v] μ ↔ R (some (.int v)) μ := us_iret dX11_beside_12 rfl
theorem s29 {d : Nat} {R : gR} {μ : gM} {a0 : Int32} : gc_S (d + 1) 29 [.int a0] μ R ↔ gc_W (gc_S d) cX11_beside 11 0 R 0 [.int a0, .retAddr 0] [] μ := us_call (gm_29) rfl rfl
theorem dX11_upTo_0 : decode cX11_upTo 0 = .ok (.iload_n 1, 1) := by decide +kernel
theorem dX11_upTo_1 : decode cX11_upTo 1 = .ok (.ifCond .lt 12, 3) := by decide +kernel
theorem dX11_upTo_4 : decode cX11_upTo 4 = .ok (.iload_n 1, 1) := by decide +kernel
theorem dX11_upTo_5 : decode cX11_upTo 5 = .ok (.iload_n 0, 1) := by decide +kernel
theorem dX11_upTo_6 : decode cX11_upTo 6 = .ok (.if_icmp .gt 7, 3) := by decide +kernel
theorem dX11_upTo_9 : decode cX11_upTo 9 = .ok (.iconst 1, 1) := by decide +kernel
theorem dX11_upTo_10 : decode cX11_upTo 10 = .ok (.goto 4, 3) := by decide +kernel
theorem dX11_upTo_13 : decode cX11_upTo 13 = .ok (.iconst 0, 1) := by decide +kernel
theorem dX11_upTo_14 : decode cX11_upTo 14 = .ok (.ireturn, 1) := by decide +kernel
theorem u73_0 {d : Nat} {R : gR} {μ : gM} {l0 : Value} {st : List Value} {x : Int32}  : gc_W (gc_S d) cX11_upTo 11 1 R 0 [l0, .int x] st μ ↔ gc_W (gc_S d) cX11_upTo 11 1 R 1 [l0, .int x] (.int x :: st) μ := us_iload_n dX11_upTo_0 rfl
theorem u73_1 {d : Nat} {R : gR} {μ : gM} {L : List Value} {st : List Value} {x : Int32}  : gc_W (gc_S d) cX11_upTo 11 1 R 1 L (.int x :: st) μ ↔ if x < 0 then gc_W (gc_S d) cX11_upTo 11 1 R 13 L st μ else gc_W (gc_S d) cX11_upTo 11 1 R 4 L st μ := us_iflt dX11_upTo_1 rfl
theorem u73_4 {d : Nat} {R : gR} {μ : gM} {l0 : Value} {st : List Value} {x : Int32}  : gc_W (gc_S d) cX11_upTo 11 1 R 4 [l0, .int x] st μ ↔ gc_W (gc_S d) cX11_upTo 11 1 R 5 [l0, .int x] (.int x :: st) μ := us_iload_n dX11_upTo_4 rfl
theorem u73_5 {d : Nat} {R : gR} {μ : gM} {l1 : Value} {st : List Value} {x : Int32}  : gc_W (gc_S d) cX11_upTo 11 1 R 5 [.int x, l1] st μ ↔ gc_W (gc_S d) cX11_upTo 11 1 R 6 [.int x, l1] (.int x :: st) μ := us_iload_n dX11_upTo_5 rfl
theorem u73_6 {d : Nat} {R : gR} {μ : gM} {L : List Value} {st : List Value} {x y : Int32}  : gc_W (gc_S d) cX11_upTo 11 1 R 6 L (.int y :: .int x :: st) μ ↔ if y < x then gc_W (gc_S d) cX11_upTo 11 1 R 13 L st μ else gc_W (gc_S d) cX11_upTo 11 1 R 9 L st μ := us_icgt dX11_upTo_6 rfl
theorem u73_9 {d : Nat} {R : gR} {μ : gM} {L : List Value} {st : List Value}   : gc_W (gc_S d) cX11_upTo 11 1 R 9 L st μ ↔ gc_W (gc_S d) cX11_upTo 11 1 R 10 L (.int 1 :: st) μ := us_iconst dX11_upTo_9 ci_iconst_1
theorem u73_10 {d : Nat} {R : gR} {μ : gM} {L : List Value} {st : List Value}  : gc_W (gc_S d) cX11_upTo 11 1 R 10 L st μ ↔ gc_W (gc_S d) cX11_upTo 11 1 R 14 L st μ := us_goto dX11_upTo_10 rfl
theorem u73_13 {d : Nat} {R : gR} {μ : gM} {L : List Value} {st : List Value}   : gc_W (gc_S d) cX11_upTo 11 1 R 13 L st μ ↔ gc_W (gc_S d) cX11_upTo 11 1 R 14 L (.int 0 :: st) μ := us_iconst dX11_upTo_13 ci_iconst_0
theorem u73_14 {d : Nat} {R : gR} {μ : gM} {L : List Value} {v : Int32}  : gc_W (gc_S d) cX11_upTo 11 1 R 14 L [.int v] μ ↔ ((v = 0 ∨ v = 1) ∧ R (some (.int v)) μ) := us_zret dX11_upTo_14 rfl
theorem s73 {d : Nat} {R : gR} {μ : gM} {a0 a1 : Int32} : gc_S (d + 1) 73 [.int a0, .int a1] μ R ↔ gc_W (gc_S d) cX11_upTo 11 1 R 0 [.int a0, .int a1] [] μ := us_call (gm_73) rfl rfl
theorem dX11_isCell_0 : decode cX11_isCell 0 = .ok (.bipush 15, 2) := by decide +kernel
theorem dX11_isCell_2 : decode cX11_isCell 2 = .ok (.iload_n 0, 1) := by decide +kernel
theorem dX11_isCell_3 : decode cX11_isCell 3 = .ok (.invokestatic 84, 3) := by decide +kernel
theorem dX11_isCell_6 : decode cX11_isCell 6 = .ok (.ireturn, 1) := by decide +kernel
theorem u74_0 {d : Nat} {R : gR} {μ : gM} {L : List Value} {st : List Value}   : gc_W (gc_S d) cX11_isCell 11 1 R 0 L st μ ↔ gc_W (gc_S d) cX11_isCell 11 1 R 2 L (.int 15 :: st) μ := us_bipush dX11_isCell_0 ci_bipush_15
theorem u74_2 {d : Nat} {R : gR} {μ : gM} {st : List Value} {x : Int32}  : gc_W (gc_S d) cX11_isCell 11 1 R 2 [.int x] st μ ↔ gc_W (gc_S d) cX11_isCell 11 1 R 3 [.int x] (.int x :: st) μ := us_iload_n dX11_isCell_2 rfl
theorem u74_3 {d : Nat} {R : gR} {μ : gM} {L : List Value}  {a0 a1 : Int32}  : gc_W (gc_S d) cX11_isCell 11 1 R 3 L [.int a1, .int a0] μ ↔ gc_S d 73 [.int a0, .int a1] μ (fun v μ' => gc_W (gc_S d) cX11_isCell 11 1 R 6 L (v.toList ++ []) μ') := us_stat dX11_isCell_3 gs_11_84 gne_11_84 gn_11_84 gc_11_84_97 rfl rfl rfl rfl
theorem u74_6 {d : Nat} {R : gR} {μ : gM} {L : List Value} {v : Int32}  : gc_W (gc_S d) cX11_isCell 11 1 R 6 L [.int v] μ ↔ ((v = 0 ∨ v = 1) ∧ R (some (.int v)) μ) := us_zret dX11_isCell_6 rfl
theorem s74 {d : Nat} {R : gR} {μ : gM} {a0 : Int32} : gc_S (d + 1) 74 [.int a0] μ R ↔ gc_W (gc_S d) cX11_isCell 11 1 R 0 [.int a0] [] μ := us_call (gm_74) rfl rfl
theorem dX11_refused_0 : decode cX11_refused 0 = .ok (.aload_n 0, 1) := by decide +kernel
theorem dX11_refused_1 : decode cX11_refused 1 = .ok (.getfield 68, 3) := by decide +kernel
theorem dX11_refused_4 : decode cX11_refused 4 = .ok (.iload_n 1, 1) := by decide +kernel
theorem dX11_refused_5 : decode cX11_refused 5 = .ok (.dup2, 1) := by decide +kernel
theorem dX11_refused_6 : decode cX11_refused 6 = .ok (.iaload, 1) := by decide +kernel
theorem dX11_refused_7 : decode cX11_refused 7 = .ok (.iconst 1, 1) := by decide +kernel
theorem dX11_refused_8 : decode cX11_refused 8 = .ok (.iadd, 1) := by decide +kernel
theorem dX11_refused_9 : decode cX11_refused 9 = .ok (.iastore, 1) := by decide +kernel
theorem dX11_refused_10 : decode cX11_refused 10 = .ok (.ldc_w 309, 3) := by decide +kernel
theorem dX11_refused_13 : decode cX11_refused 13 = .ok (.iload_n 1, 1) := by decide +kernel
theorem dX11_refused_14 : decode cX11_refused 14 = .ok (.isub, 1) := by decide +kernel
theorem dX11_refused_15 : decode cX11_refused 15 = .ok (.ireturn, 1) := by decide +kernel
theorem u75_0 {d : Nat} {R : gR} {μ : gM} {l1 : Value} {st : List Value} {x : Nat}  : gc_W (gc_S d) cX11_refused 11 0 R 0 [.ref x, l1] st μ ↔ gc_W (gc_S d) cX11_refused 11 0 R 1 [.ref x, l1] (.ref x :: st) μ := us_aload_n dX11_refused_0 rfl
theorem u75_1 {d : Nat} {R : gR} {μ : gM} {L : List Value} {st : List Value} {o : Nat} (hk : gc_kd o = 11) : gc_W (gc_S d) cX11_refused 11 0 R 1 L (.ref o :: st) μ ↔ gc_W (gc_S d) cX11_refused 11 0 R 4 L (gc_fv o 6 μ :: st) μ := us_getf dX11_refused_1 gf_11_68 hk
theorem u75_4 {d : Nat} {R : gR} {μ : gM} {l0 : Value} {st : List Value} {x : Int32}  : gc_W (gc_S d) cX11_refused 11 0 R 4 [l0, .int x] st μ ↔ gc_W (gc_S d) cX11_refused 11 0 R 5 [l0, .int x] (.int x :: st) μ := us_iload_n dX11_refused_4 rfl
theorem u75_5 {d : Nat} {R : gR} {μ : gM} {L : List Value} {st : List Value} {x : Int32} {o : Nat}  : gc_W (gc_S d) cX11_refused 11 0 R 5 L (.int x :: .ref o :: st) μ ↔ gc_W (gc_S d) cX11_refused 11 0 R 6 L (.int x :: .ref o :: .int x :: .ref o :: st) μ := us_dup2 dX11_refused_5
theorem u75_6 {d : Nat} {R : gR} {μ : gM} {L : List Value} {st : List Value} {o : Nat} {i : Int32} (hk : gc_kd o = 20) : gc_W (gc_S d) cX11_refused 11 0 R 6 L (.int i :: .ref o :: st) μ ↔ (vp_in i (gc_al o) ∧ gc_W (gc_S d) cX11_refused 11 0 R 7 L (.int (μ o i.toNatClampNeg) :: st) μ) := us_iald dX11_refused_6 hk
theorem u75_7 {d : Nat} {R : gR} {μ : gM} {L : List Value} {st : List Value}   : gc_W (gc_S d) cX11_refused 11 0 R 7 L st μ ↔ gc_W (gc_S d) cX11_refused 11 0 R 8 L (.int 1 :: st) μ := us_iconst dX11_refused_7 ci_iconst_1
theorem u75_8 {d : Nat} {R : gR} {μ : gM} {L : List Value} {st : List Value} {x y : Int32}  : gc_W (gc_S d) cX11_refused 11 0 R 8 L (.int y :: .int x :: st) μ ↔ gc_W (gc_S d) cX11_refused 11 0 R 9 L (.int (x + y) :: st) μ := us_iadd dX11_refused_8
theorem u75_9 {d : Nat} {R : gR} {μ : gM} {L : List Value} {st : List Value} {o : Nat} {i x : Int32} (hk : gc_kd o = 20) : gc_W (gc_S d) cX11_refused 11 0 R 9 L (.int x :: .int i :: .ref o :: st) μ ↔ (vp_in i (gc_al o) ∧ gc_W (gc_S d) cX11_refused 11 0 R 10 L st (gc_up μ o i.toNatClampNeg x)) := us_iast dX11_refused_9 hk
theorem u75_10 {d : Nat} {R : gR} {μ : gM} {L : List Value} {st : List Value}   : gc_W (gc_S d) cX11_refused 11 0 R 10 L st μ ↔ gc_W (gc_S d) cX11_refused 11 0 R 13 L (.int (-1000000000) :: st) μ := us_ldcw dX11_refused_10 gk_11_309
theorem u75_13 {d : Nat} {R : gR} {μ : gM} {l0 : Value} {st : List Value} {x : Int32}  : gc_W (gc_S d) cX11_refused 11 0 R 13 [l0, .int x] st μ ↔ gc_W (gc_S d) cX11_refused 11 0 R 14 [l0, .int x] (.int x :: st) μ := us_iload_n dX11_refused_13 rfl
theorem u75_14 {d : Nat} {R : gR} {μ : gM} {L : List Value} {st : List Value} {x y : Int32}  : gc_W (gc_S d) cX11_refused 11 0 R 14 L (.int y :: .int x :: st) μ ↔ gc_W (gc_S d) cX11_refused 11 0 R 15 L (.int (x - y) :: st) μ := us_isub dX11_refused_14
theorem u75_15 {d : Nat} {R : gR} {μ : gM} {L : List Value} {v : Int32}  : gc_W (gc_S d) cX11_refused 11 0 R 15 L [.int v] μ ↔ R (some (.int v)) μ := us_iret dX11_refused_15 rfl
theorem s75 {d : Nat} {R : gR} {μ : gM} {o : Nat} {a0 : Int32} : gc_S (d + 1) 75 [.ref o, .int a0] μ R ↔ gc_W (gc_S d) cX11_refused 11 0 R 0 [.ref o, .int a0] [] μ := us_call (gm_75) rfl rfl
theorem dX11_cell_0 : decode cX11_cell 0 = .ok (.iload_n 1, 1) := by decide +kernel
theorem dX11_cell_1 : decode cX11_cell 1 = .ok (.invokestatic 80, 3) := by decide +kernel
theorem dX11_cell_4 : decode cX11_cell 4 = .ok (.ifCond .eq 28, 3) := by decide +kernel
theorem dX11_cell_7 : decode cX11_cell 7 = .ok (.iconst 1, 1) := by decide +kernel
theorem dX11_cell_8 : decode cX11_cell 8 = .ok (.iload_n 2, 1) := by decide +kernel
theorem dX11_cell_9 : decode cX11_cell 9 = .ok (.invokestatic 84, 3) := by decide +kernel
theorem dX11_cell_12 : decode cX11_cell 12 = .ok (.ifCond .eq 20, 3) := by decide +kernel
theorem dX11_cell_15 : decode cX11_cell 15 = .ok (.iload_n 2, 1) := by decide +kernel
theorem dX11_cell_16 : decode cX11_cell 16 = .ok (.ifCond .ne 8, 3) := by decide +kernel
theorem dX11_cell_19 : decode cX11_cell 19 = .ok (.bipush 99, 2) := by decide +kernel
theorem dX11_cell_21 : decode cX11_cell 21 = .ok (.goto 4, 3) := by decide +kernel
theorem dX11_cell_24 : decode cX11_cell 24 = .ok (.iconst 1, 1) := by decide +kernel
theorem dX11_cell_25 : decode cX11_cell 25 = .ok (.iload_n 3, 1) := by decide +kernel
theorem dX11_cell_26 : decode cX11_cell 26 = .ok (.invokestatic 84, 3) := by decide +kernel
theorem dX11_cell_29 : decode cX11_cell 29 = .ok (.ifCond .ne 9, 3) := by decide +kernel
theorem dX11_cell_32 : decode cX11_cell 32 = .ok (.aload_n 0, 1) := by decide +kernel
theorem dX11_cell_33 : decode cX11_cell 33 = .ok (.iconst 1, 1) := by decide +kernel
theorem dX11_cell_34 : decode cX11_cell 34 = .ok (.invokevirtual 88, 3) := by decide +kernel
theorem dX11_cell_37 : decode cX11_cell 37 = .ok (.ireturn, 1) := by decide +kernel
theorem dX11_cell_38 : decode cX11_cell 38 = .ok (.iload_n 2, 1) := by decide +kernel
theorem dX11_cell_39 : decode cX11_cell 39 = .ok (.ifCond .ne 27, 3) := by decide +kernel
theorem dX11_cell_42 : decode cX11_cell 42 = .ok (.aload_n 0, 1) := by decide +kernel
theorem dX11_cell_43 : decode cX11_cell 43 = .ok (.getfield 38, 3) := by decide +kernel
theorem dX11_cell_46 : decode cX11_cell 46 = .ok (.getfield 92, 3) := by decide +kernel
theorem dX11_cell_49 : decode cX11_cell 49 = .ok (.iload_n 1, 1) := by decide +kernel
theorem dX11_cell_50 : decode cX11_cell 50 = .ok (.iaload, 1) := by decide +kernel
theorem dX11_cell_51 : decode cX11_cell 51 = .ok (.istore 4, 2) := by decide +kernel
theorem dX11_cell_53 : decode cX11_cell 53 = .ok (.aload_n 0, 1) := by decide +kernel
theorem dX11_cell_54 : decode cX11_cell 54 = .ok (.getfield 38, 3) := by decide +kernel
theorem dX11_cell_57 : decode cX11_cell 57 = .ok (.getfield 92, 3) := by decide +kernel
theorem dX11_cell_60 : decode cX11_cell 60 = .ok (.iload_n 1, 1) := by decide +kernel
theorem dX11_cell_61 : decode cX11_cell 61 = .ok (.iload_n 3, 1) := by decide +kernel
theorem dX11_cell_62 : decode cX11_cell 62 = .ok (.iastore, 1) := by decide +kernel
theorem dX11_cell_63 : decode cX11_cell 63 = .ok (.iload 4, 2) := by decide +kernel
theorem dX11_cell_65 : decode cX11_cell 65 = .ok (.ireturn, 1) := by decide +kernel
theorem dX11_cell_66 : decode cX11_cell 66 = .ok (.aload_n 0, 1) := by decide +kernel
theorem dX11_cell_67 : decode cX11_cell 67 = .ok (.getfield 38, 3) := by decide +kernel
theorem dX11_cell_70 : decode cX11_cell 70 = .ok (.getfield 95, 3) := by decide +kernel
theorem dX11_cell_73 : decode cX11_cell 73 = .ok (.iload_n 1, 1) := by decide +kernel
theorem dX11_cell_74 : decode cX11_cell 74 = .ok (.ishr, 1) := by decide +kernel
theorem dX11_cell_75 : decode cX11_cell 75 = .ok (.iconst 1, 1) := by decide +kernel
theorem dX11_cell_76 : decode cX11_cell 76 = .ok (.iand, 1) := by decide +kernel
theorem dX11_cell_77 : decode cX11_cell 77 = .ok (.istore 4, 2) := by decide +kernel
theorem dX11_cell_79 : decode cX11_cell 79 = .ok (.aload_n 0, 1) := by decide +kernel
theorem dX11_cell_80 : decode cX11_cell 80 = .ok (.getfield 38, 3) := by decide +kernel
theorem dX11_cell_83 : decode cX11_cell 83 = .ok (.aload_n 0, 1) := by decide +kernel
theorem dX11_cell_84 : decode cX11_cell 84 = .ok (.getfield 38, 3) := by decide +kernel
theorem dX11_cell_87 : decode cX11_cell 87 = .ok (.getfield 95, 3) := by decide +kernel
theorem dX11_cell_90 : decode cX11_cell 90 = .ok (.iconst 1, 1) := by decide +kernel
theorem dX11_cell_91 : decode cX11_cell 91 = .ok (.iload_n 1, 1) := by decide +kernel
theorem dX11_cell_92 : decode cX11_cell 92 = .ok (.ishl, 1) := by decide +kernel
theorem dX11_cell_93 : decode cX11_cell 93 = .ok (.iconst (-1), 1) := by decide +kernel
theorem dX11_cell_94 : decode cX11_cell 94 = .ok (.ixor, 1) := by decide +kernel
theorem dX11_cell_95 : decode cX11_cell 95 = .ok (.iand, 1) := by decide +kernel
theorem dX11_cell_96 : decode cX11_cell 96 = .ok (.iload_n 3, 1) := by decide +kernel
theorem dX11_cell_97 : decode cX11_cell 97 = .ok (.iload_n 1, 1) := by decide +kernel
theorem dX11_cell_98 : decode cX11_cell 98 = .ok (.ishl, 1) := by decide +kernel
theorem dX11_cell_99 : decode cX11_cell 99 = .ok (.ior, 1) := by decide +kernel
theorem dX11_cell_100 : decode cX11_cell 100 = .ok (.putfield 95, 3) := by decide +kernel
theorem dX11_cell_103 : decode cX11_cell 103 = .ok (.iload 4, 2) := by decide +kernel
theorem dX11_cell_105 : decode cX11_cell 105 = .ok (.ireturn, 1) := by decide +kernel
theorem u76_0 {d : Nat} {R : gR} {μ : gM} {l0 l2 l3 l4 : Value} {st : List Value} {x : Int32}  : gc_W (gc_S d) cX11_cell 11 0 R 0 [l0, .int x, l2, l3, l4] st μ ↔ gc_W (gc_S d) cX11_cell 11 0 R 1 [l0, .int x, l2, l3, l4] (.int x :: st) μ := us_iload_n dX11_cell_0 rfl
theorem u76_1 {d : Nat} {R : gR} {μ : gM} {L : List Value}  {a0 : Int32}  : gc_W (gc_S d) cX11_cell 11 0 R 1 L [.int a0] μ ↔ gc_S d 74 [.int a0] μ (fun v μ' => gc_W (gc_S d) cX11_cell 11 0 R 4 L (v.toList ++ []) μ') := us_stat dX11_cell_1 gs_11_80 gne_11_80 gn_11_80 gc_11_80_97 rfl rfl rfl rfl
theorem u76_4 {d : Nat} {R : gR} {μ : gM} {L : List Value} {st : List Value} {x : Int32}  : gc_W (gc_S d) cX11_cell 11 0 R 4 L (.int x :: st) μ ↔ if x = 0 then gc_W (gc_S d) cX11_cell 11 0 R 32 L st μ else gc_W (gc_S d) cX11_cell 11 0 R 7 L st μ := us_ifeq dX11_cell_4 rfl
theorem u76_7 {d : Nat} {R : gR} {μ : gM} {L : List Value} {st : List Value}   : gc_W (gc_S d) cX11_cell 11 0 R 7 L st μ ↔ gc_W (gc_S d) cX11_cell 11 0 R 8 L (.int 1 :: st) μ := us_iconst dX11_cell_7 ci_iconst_1
theorem u76_8 {d : Nat} {R : gR} {μ : gM} {l0 l1 l3 l4 : Value} {st : List Value} {x : Int32}  : gc_W (gc_S d) cX11_cell 11 0 R 8 [l0, l1, .int x, l3, l4] st μ ↔ gc_W (gc_S d) cX11_cell 11 0 R 9 [l0, l1, .int x, l3, l4] (.int x :: st) μ := us_iload_n dX11_cell_8 rfl
theorem u76_9 {d : Nat} {R : gR} {μ : gM} {L : List Value}  {a0 a1 : Int32}  : gc_W (gc_S d) cX11_cell 11 0 R 9 L [.int a1, .int a0] μ ↔ gc_S d 73 [.int a0, .int a1] μ (fun v μ' => gc_W (gc_S d) cX11_cell 11 0 R 12 L (v.toList ++ []) μ') := us_stat dX11_cell_9 gs_11_84 gne_11_84 gn_11_84 gc_11_84_97 rfl rfl rfl rfl
theorem u76_12 {d : Nat} {R : gR} {μ : gM} {L : List Value} {st : List Value} {x : Int32}  : gc_W (gc_S d) cX11_cell 11 0 R 12 L (.int x :: st) μ ↔ if x = 0 then gc_W (gc_S d) cX11_cell 11 0 R 32 L st μ else gc_W (gc_S d) cX11_cell 11 0 R 15 L st μ := us_ifeq dX11_cell_12 rfl
theorem u76_15 {d : Nat} {R : gR} {μ : gM} {l0 l1 l3 l4 : Value} {st : List Value} {x : Int32}  : gc_W (gc_S d) cX11_cell 11 0 R 15 [l0, l1, .int x, l3, l4] st μ ↔ gc_W (gc_S d) cX11_cell 11 0 R 16 [l0, l1, .int x, l3, l4] (.int x :: st) μ := us_iload_n dX11_cell_15 rfl
theorem u76_16 {d : Nat} {R : gR} {μ : gM} {L : List Value} {st : List Value} {x : Int32}  : gc_W (gc_S d) cX11_cell 11 0 R 16 L (.int x :: st) μ ↔ if x = 0 then gc_W (gc_S d) cX11_cell 11 0 R 19 L st μ else gc_W (gc_S d) cX11_cell 11 0 R 24 L st μ := us_ifne dX11_cell_16 rfl
theorem u76_19 {d : Nat} {R : gR} {μ : gM} {L : List Value} {st : List Value}   : gc_W (gc_S d) cX11_cell 11 0 R 19 L st μ ↔ gc_W (gc_S d) cX11_cell 11 0 R 21 L (.int 99 :: st) μ := us_bipush dX11_cell_19 ci_bipush_99
theorem u76_21 {d : Nat} {R : gR} {μ : gM} {L : List Value} {st : List Value}  : gc_W (gc_S d) cX11_cell 11 0 R 21 L st μ ↔ gc_W (gc_S d) cX11_cell 11 0 R 25 L st μ := us_goto dX11_cell_21 rfl
theorem u76_24 {d : Nat} {R : gR} {μ : gM} {L : List Value} {st : List Value}   : gc_W (gc_S d) cX11_cell 11 0 R 24 L st μ ↔ gc_W (gc_S d) cX11_cell 11 0 R 25 L (.int 1 :: st) μ := us_iconst dX11_cell_24 ci_iconst_1
theorem u76_25 {d : Nat} {R : gR} {μ : gM} {l0 l1 l2 l4 : Value} {st : List Value} {x : Int32}  : gc_W (gc_S d) cX11_cell 11 0 R 25 [l0, l1, l2, .int x, l4] st μ ↔ gc_W (gc_S d) cX11_cell 11 0 R 26 [l0, l1, l2, .int x, l4] (.int x :: st) μ := us_iload_n dX11_cell_25 rfl
theorem u76_26 {d : Nat} {R : gR} {μ : gM} {L : List Value}  {a0 a1 : Int32}  : gc_W (gc_S d) cX11_cell 11 0 R 26 L [.int a1, .int a0] μ ↔ gc_S d 73 [.int a0, .int a1] μ (fun v μ' => gc_W (gc_S d) cX11_cell 11 0 R 29 L (v.toList ++ []) μ') := us_stat dX11_cell_26 gs_11_84 gne_11_84 gn_11_84 gc_11_84_97 rfl rfl rfl rfl
theorem u76_29 {d : Nat} {R : gR} {μ : gM} {L : List Value} {st : List Value} {x : Int32}  : gc_W (gc_S d) cX11_cell 11 0 R 29 L (.int x :: st) μ ↔ if x = 0 then gc_W (gc_S d) cX11_cell 11 0 R 32 L st μ else gc_W (gc_S d) cX11_cell 11 0 R 38 L st μ := us_ifne dX11_cell_29 rfl
theorem u76_32 {d : Nat} {R : gR} {μ : gM} {l1 l2 l3 l4 : Value} {st : List Value} {x : Nat}  : gc_W (gc_S d) cX11_cell 11 0 R 32 [.ref x, l1, l2, l3, l4] st μ ↔ gc_W (gc_S d) cX11_cell 11 0 R 33 [.ref x, l1, l2, l3, l4] (.ref x :: st) μ := us_aload_n dX11_cell_32 rfl
theorem u76_33 {d : Nat} {R : gR} {μ : gM} {L : List Value} {st : List Value}   : gc_W (gc_S d) cX11_cell 11 0 R 33 L st μ ↔ gc_W (gc_S d) cX11_cell 11 0 R 34 L (.int 1 :: st) μ := us_iconst dX11_cell_33 ci_iconst_1
theorem u76_34 {d : Nat} {R : gR} {μ : gM} {L : List Value} {o : Nat} {a0 : Int32} (hk : gc_kd o = 11) : gc_W (gc_S d) cX11_cell 11 0 R 34 L [.int a0, .ref o] μ ↔ gc_S d 75 [.ref o, .int a0] μ (fun v μ' => gc_W (gc_S d) cX11_cell 11 0 R 37 L (v.toList ++ []) μ') := us_virt dX11_cell_34 gn_11_88 gc_11_88_11 hk rfl rfl rfl rfl rfl
theorem u76_37 {d : Nat} {R : gR} {μ : gM} {L : List Value} {v : Int32}  : gc_W (gc_S d) cX11_cell 11 0 R 37 L [.int v] μ ↔ R (some (.int v)) μ := us_iret dX11_cell_37 rfl
theorem u76_38 {d : Nat} {R : gR} {μ : gM} {l0 l1 l3 l4 : Value} {st : List Value} {x : Int32}  : gc_W (gc_S d) cX11_cell 11 0 R 38 [l0, l1, .int x, l3, l4] st μ ↔ gc_W (gc_S d) cX11_cell 11 0 R 39 [l0, l1, .int x, l3, l4] (.int x :: st) μ := us_iload_n dX11_cell_38 rfl
theorem u76_39 {d : Nat} {R : gR} {μ : gM} {L : List Value} {st : List Value} {x : Int32}  : gc_W (gc_S d) cX11_cell 11 0 R 39 L (.int x :: st) μ ↔ if x = 0 then gc_W (gc_S d) cX11_cell 11 0 R 42 L st μ else gc_W (gc_S d) cX11_cell 11 0 R 66 L st μ := us_ifne dX11_cell_39 rfl
theorem u76_42 {d : Nat} {R : gR} {μ : gM} {l1 l2 l3 l4 : Value} {st : List Value} {x : Nat}  : gc_W (gc_S d) cX11_cell 11 0 R 42 [.ref x, l1, l2, l3, l4] st μ ↔ gc_W (gc_S d) cX11_cell 11 0 R 43 [.ref x, l1, l2, l3, l4] (.ref x :: st) μ := us_aload_n dX11_cell_42 rfl
theorem u76_43 {d : Nat} {R : gR} {μ : gM} {L : List Value} {st : List Value} {o : Nat} (hk : gc_kd o = 11) : gc_W (gc_S d) cX11_cell 11 0 R 43 L (.ref o :: st) μ ↔ gc_W (gc_S d) cX11_cell 11 0 R 46 L (gc_fv o 0 μ :: st) μ := us_getf dX11_cell_43 gf_11_38 hk
theorem u76_46 {d : Nat} {R : gR} {μ : gM} {L : List Value} {st : List Value} {o : Nat} (hk : gc_kd o = 0) : gc_W (gc_S d) cX11_cell 11 0 R 46 L (.ref o :: st) μ ↔ gc_W (gc_S d) cX11_cell 11 0 R 49 L (gc_fv o 2 μ :: st) μ := us_getf dX11_cell_46 gf_11_92 hk
theorem u76_49 {d : Nat} {R : gR} {μ : gM} {l0 l2 l3 l4 : Value} {st : List Value} {x : Int32}  : gc_W (gc_S d) cX11_cell 11 0 R 49 [l0, .int x, l2, l3, l4] st μ ↔ gc_W (gc_S d) cX11_cell 11 0 R 50 [l0, .int x, l2, l3, l4] (.int x :: st) μ := us_iload_n dX11_cell_49 rfl
theorem u76_50 {d : Nat} {R : gR} {μ : gM} {L : List Value} {st : List Value} {o : Nat} {i : Int32} (hk : gc_kd o = 20) : gc_W (gc_S d) cX11_cell 11 0 R 50 L (.int i :: .ref o :: st) μ ↔ (vp_in i (gc_al o) ∧ gc_W (gc_S d) cX11_cell 11 0 R 51 L (.int (μ o i.toNatClampNeg) :: st) μ) := us_iald dX11_cell_50 hk
theorem u76_51 {d : Nat} {R : gR} {μ : gM} {l0 l1 l2 l3 l4 : Value} {st : List Value} {x : Int32} (hs : gc_sk l4 = true) : gc_W (gc_S d) cX11_cell 11 0 R 51 [l0, l1, l2, l3, l4] (.int x :: st) μ ↔ gc_W (gc_S d) cX11_cell 11 0 R 53 [l0, l1, l2, l3, .int x] st μ := us_istore dX11_cell_51 rfl hs
theorem u76_53 {d : Nat} {R : gR} {μ : gM} {l1 l2 l3 l4 : Value} {st : List Value} {x : Nat}  : gc_W (gc_S d) cX11_cell 11 0 R 53 [.ref x, l1, l2, l3, l4] st μ ↔ gc_W (gc_S d) cX11_cell 11 0 R 54 [.ref x, l1, l2, l3, l4] (.ref x :: st) μ := us_aload_n dX11_cell_53 rfl
theorem u76_54 {d : Nat} {R : gR} {μ : gM} {L : List Value} {st : List Value} {o : Nat} (hk : gc_kd o = 11) : gc_W (gc_S d) cX11_cell 11 0 R 54 L (.ref o :: st) μ ↔ gc_W (gc_S d) cX11_cell 11 0 R 57 L (gc_fv o 0 μ :: st) μ := us_getf dX11_cell_54 gf_11_38 hk
theorem u76_57 {d : Nat} {R : gR} {μ : gM} {L : List Value} {st : List Value} {o : Nat} (hk : gc_kd o = 0) : gc_W (gc_S d) cX11_cell 11 0 R 57 L (.ref o :: st) μ ↔ gc_W (gc_S d) cX11_cell 11 0 R 60 L (gc_fv o 2 μ :: st) μ := us_getf dX11_cell_57 gf_11_92 hk
theorem u76_60 {d : Nat} {R : gR} {μ : gM} {l0 l2 l3 l4 : Value} {st : List Value} {x : Int32}  : gc_W (gc_S d) cX11_cell 11 0 R 60 [l0, .int x, l2, l3, l4] st μ ↔ gc_W (gc_S d) cX11_cell 11 0 R 61 [l0, .int x, l2, l3, l4] (.int x :: st) μ := us_iload_n dX11_cell_60 rfl
theorem u76_61 {d : Nat} {R : gR} {μ : gM} {l0 l1 l2 l4 : Value} {st : List Value} {x : Int32}  : gc_W (gc_S d) cX11_cell 11 0 R 61 [l0, l1, l2, .int x, l4] st μ ↔ gc_W (gc_S d) cX11_cell 11 0 R 62 [l0, l1, l2, .int x, l4] (.int x :: st) μ := us_iload_n dX11_cell_61 rfl
theorem u76_62 {d : Nat} {R : gR} {μ : gM} {L : List Value} {st : List Value} {o : Nat} {i x : Int32} (hk : gc_kd o = 20) : gc_W (gc_S d) cX11_cell 11 0 R 62 L (.int x :: .int i :: .ref o :: st) μ ↔ (vp_in i (gc_al o) ∧ gc_W (gc_S d) cX11_cell 11 0 R 63 L st (gc_up μ o i.toNatClampNeg x)) := us_iast dX11_cell_62 hk
theorem u76_63 {d : Nat} {R : gR} {μ : gM} {l0 l1 l2 l3 : Value} {st : List Value} {x : Int32}  : gc_W (gc_S d) cX11_cell 11 0 R 63 [l0, l1, l2, l3, .int x] st μ ↔ gc_W (gc_S d) cX11_cell 11 0 R 65 [l0, l1, l2, l3, .int x] (.int x :: st) μ := us_iload dX11_cell_63 rfl
theorem u76_65 {d : Nat} {R : gR} {μ : gM} {L : List Value} {v : Int32}  : gc_W (gc_S d) cX11_cell 11 0 R 65 L [.int v] μ ↔ R (some (.int v)) μ := us_iret dX11_cell_65 rfl
theorem u76_66 {d : Nat} {R : gR} {μ : gM} {l1 l2 l3 l4 : Value} {st : List Value} {x : Nat}  : gc_W (gc_S d) cX11_cell 11 0 R 66 [.ref x, l1, l2, l3, l4] st μ ↔ gc_W (gc_S d) cX11_cell 11 0 R 67 [.ref x, l1, l2, l3, l4] (.ref x :: st) μ := us_aload_n dX11_cell_66 rfl
theorem u76_67 {d : Nat} {R : gR} {μ : gM} {L : List Value} {st : List Value} {o : Nat} (hk : gc_kd o = 11) : gc_W (gc_S d) cX11_cell 11 0 R 67 L (.ref o :: st) μ ↔ gc_W (gc_S d) cX11_cell 11 0 R 70 L (gc_fv o 0 μ :: st) μ := us_getf dX11_cell_67 gf_11_38 hk
theorem u76_70 {d : Nat} {R : gR} {μ : gM} {L : List Value} {st : List Value} {o : Nat} (hk : gc_kd o = 0) : gc_W (gc_S d) cX11_cell 11 0 R 70 L (.ref o :: st) μ ↔ gc_W (gc_S d) cX11_cell 11 0 R 73 L (gc_fv o 11 μ :: st) μ := us_getf dX11_cell_70 gf_11_95 hk
theorem u76_73 {d : Nat} {R : gR} {μ : gM} {l0 l2 l3 l4 : Value} {st : List Value} {x : Int32}  : gc_W (gc_S d) cX11_cell 11 0 R 73 [l0, .int x, l2, l3, l4] st μ ↔ gc_W (gc_S d) cX11_cell 11 0 R 74 [l0, .int x, l2, l3, l4] (.int x :: st) μ := us_iload_n dX11_cell_73 rfl
theorem u76_74 {d : Nat} {R : gR} {μ : gM} {L : List Value} {st : List Value} {x y : Int32}  : gc_W (gc_S d) cX11_cell 11 0 R 74 L (.int y :: .int x :: st) μ ↔ gc_W (gc_S d) cX11_cell 11 0 R 75 L (.int (x >>> (y &&& 31)) :: st) μ := us_ishr dX11_cell_74
theorem u76_75 {d : Nat} {R : gR} {μ : gM} {L : List Value} {st : List Value}   : gc_W (gc_S d) cX11_cell 11 0 R 75 L st μ ↔ gc_W (gc_S d) cX11_cell 11 0 R 76 L (.int 1 :: st) μ := us_iconst dX11_cell_75 ci_iconst_1
theorem u76_76 {d : Nat} {R : gR} {μ : gM} {L : List Value} {st : List Value} {x y : Int32}  : gc_W (gc_S d) cX11_cell 11 0 R 76 L (.int y :: .int x :: st) μ ↔ gc_W (gc_S d) cX11_cell 11 0 R 77 L (.int (x &&& y) :: st) μ := us_iand dX11_cell_76
theorem u76_77 {d : Nat} {R : gR} {μ : gM} {l0 l1 l2 l3 l4 : Value} {st : List Value} {x : Int32} (hs : gc_sk l4 = true) : gc_W (gc_S d) cX11_cell 11 0 R 77 [l0, l1, l2, l3, l4] (.int x :: st) μ ↔ gc_W (gc_S d) cX11_cell 11 0 R 79 [l0, l1, l2, l3, .int x] st μ := us_istore dX11_cell_77 rfl hs
theorem u76_79 {d : Nat} {R : gR} {μ : gM} {l1 l2 l3 l4 : Value} {st : List Value} {x : Nat}  : gc_W (gc_S d) cX11_cell 11 0 R 79 [.ref x, l1, l2, l3, l4] st μ ↔ gc_W (gc_S d) cX11_cell 11 0 R 80 [.ref x, l1, l2, l3, l4] (.ref x :: st) μ := us_aload_n dX11_cell_79 rfl
theorem u76_80 {d : Nat} {R : gR} {μ : gM} {L : List Value} {st : List Value} {o : Nat} (hk : gc_kd o = 11) : gc_W (gc_S d) cX11_cell 11 0 R 80 L (.ref o :: st) μ ↔ gc_W (gc_S d) cX11_cell 11 0 R 83 L (gc_fv o 0 μ :: st) μ := us_getf dX11_cell_80 gf_11_38 hk
theorem u76_83 {d : Nat} {R : gR} {μ : gM} {l1 l2 l3 l4 : Value} {st : List Value} {x : Nat}  : gc_W (gc_S d) cX11_cell 11 0 R 83 [.ref x, l1, l2, l3, l4] st μ ↔ gc_W (gc_S d) cX11_cell 11 0 R 84 [.ref x, l1, l2, l3, l4] (.ref x :: st) μ := us_aload_n dX11_cell_83 rfl
theorem u76_84 {d : Nat} {R : gR} {μ : gM} {L : List Value} {st : List Value} {o : Nat} (hk : gc_kd o = 11) : gc_W (gc_S d) cX11_cell 11 0 R 84 L (.ref o :: st) μ ↔ gc_W (gc_S d) cX11_cell 11 0 R 87 L (gc_fv o 0 μ :: st) μ := us_getf dX11_cell_84 gf_11_38 hk
theorem u76_87 {d : Nat} {R : gR} {μ : gM} {L : List Value} {st : List Value} {o : Nat} (hk : gc_kd o = 0) : gc_W (gc_S d) cX11_cell 11 0 R 87 L (.ref o :: st) μ ↔ gc_W (gc_S d) cX11_cell 11 0 R 90 L (gc_fv o 11 μ :: st) μ := us_getf dX11_cell_87 gf_11_95 hk
theorem u76_90 {d : Nat} {R : gR} {μ : gM} {L : List Value} {st : List Value}   : gc_W (gc_S d) cX11_cell 11 0 R 90 L st μ ↔ gc_W (gc_S d) cX11_cell 11 0 R 91 L (.int 1 :: st) μ := us_iconst dX11_cell_90 ci_iconst_1
theorem u76_91 {d : Nat} {R : gR} {μ : gM} {l0 l2 l3 l4 : Value} {st : List Value} {x : Int32}  : gc_W (gc_S d) cX11_cell 11 0 R 91 [l0, .int x, l2, l3, l4] st μ ↔ gc_W (gc_S d) cX11_cell 11 0 R 92 [l0, .int x, l2, l3, l4] (.int x :: st) μ := us_iload_n dX11_cell_91 rfl
theorem u76_92 {d : Nat} {R : gR} {μ : gM} {L : List Value} {st : List Value} {x y : Int32}  : gc_W (gc_S d) cX11_cell 11 0 R 92 L (.int y :: .int x :: st) μ ↔ gc_W (gc_S d) cX11_cell 11 0 R 93 L (.int (x <<< (y &&& 31)) :: st) μ := us_ishl dX11_cell_92
theorem u76_93 {d : Nat} {R : gR} {μ : gM} {L : List Value} {st : List Value}   : gc_W (gc_S d) cX11_cell 11 0 R 93 L st μ ↔ gc_W (gc_S d) cX11_cell 11 0 R 94 L (.int (-1) :: st) μ := us_iconst dX11_cell_93 ci_iconst_m1
theorem u76_94 {d : Nat} {R : gR} {μ : gM} {L : List Value} {st : List Value} {x y : Int32}  : gc_W (gc_S d) cX11_cell 11 0 R 94 L (.int y :: .int x :: st) μ ↔ gc_W (gc_S d) cX11_cell 11 0 R 95 L (.int (x ^^^ y) :: st) μ := us_ixor dX11_cell_94
theorem u76_95 {d : Nat} {R : gR} {μ : gM} {L : List Value} {st : List Value} {x y : Int32}  : gc_W (gc_S d) cX11_cell 11 0 R 95 L (.int y :: .int x :: st) μ ↔ gc_W (gc_S d) cX11_cell 11 0 R 96 L (.int (x &&& y) :: st) μ := us_iand dX11_cell_95
theorem u76_96 {d : Nat} {R : gR} {μ : gM} {l0 l1 l2 l4 : Value} {st : List Value} {x : Int32}  : gc_W (gc_S d) cX11_cell 11 0 R 96 [l0, l1, l2, .int x, l4] st μ ↔ gc_W (gc_S d) cX11_cell 11 0 R 97 [l0, l1, l2, .int x, l4] (.int x :: st) μ := us_iload_n dX11_cell_96 rfl
theorem u76_97 {d : Nat} {R : gR} {μ : gM} {l0 l2 l3 l4 : Value} {st : List Value} {x : Int32}  : gc_W (gc_S d) cX11_cell 11 0 R 97 [l0, .int x, l2, l3, l4] st μ ↔ gc_W (gc_S d) cX11_cell 11 0 R 98 [l0, .int x, l2, l3, l4] (.int x :: st) μ := us_iload_n dX11_cell_97 rfl
theorem u76_98 {d : Nat} {R : gR} {μ : gM} {L : List Value} {st : List Value} {x y : Int32}  : gc_W (gc_S d) cX11_cell 11 0 R 98 L (.int y :: .int x :: st) μ ↔ gc_W (gc_S d) cX11_cell 11 0 R 99 L (.int (x <<< (y &&& 31)) :: st) μ := us_ishl dX11_cell_98
theorem u76_99 {d : Nat} {R : gR} {μ : gM} {L : List Value} {st : List Value} {x y : Int32}  : gc_W (gc_S d) cX11_cell 11 0 R 99 L (.int y :: .int x :: st) μ ↔ gc_W (gc_S d) cX11_cell 11 0 R 100 L (.int (x ||| y) :: st) μ := us_ior dX11_cell_99
theorem u76_100 {d : Nat} {R : gR} {μ : gM} {L : List Value} {st : List Value} {o : Nat} {x : Int32} (hk : gc_kd o = 0) (hj : gc_fk o 11 = 0) : gc_W (gc_S d) cX11_cell 11 0 R 100 L (.int x :: .ref o :: st) μ ↔ gc_W (gc_S d) cX11_cell 11 0 R 103 L st (gc_up μ o 11 x) := us_putf dX11_cell_100 gf_11_95 hk hj rfl
theorem u76_103 {d : Nat} {R : gR} {μ : gM} {l0 l1 l2 l3 : Value} {st : List Value} {x : Int32}  : gc_W (gc_S d) cX11_cell 11 0 R 103 [l0, l1, l2, l3, .int x] st μ ↔ gc_W (gc_S d) cX11_cell 11 0 R 105 [l0, l1, l2, l3, .int x] (.int x :: st) μ := us_iload dX11_cell_103 rfl
theorem u76_105 {d : Nat} {R : gR} {μ : gM} {L : List Value} {v : Int32}  : gc_W (gc_S d) cX11_cell 11 0 R 105 L [.int v] μ ↔ R (some (.int v)) μ := us_iret dX11_cell_105 rfl
theorem s76 {d : Nat} {R : gR} {μ : gM} {o : Nat} {a0 a1 a2 : Int32} : gc_S (d + 1) 76 [.ref o, .int a0, .int a1, .int a2] μ R ↔ gc_W (gc_S d) cX11_cell 11 0 R 0 [.ref o, .int a0, .int a1, .int a2, .retAddr 0] [] μ := us_call (gm_76) rfl rfl
theorem dX11_ofCell_0 : decode cX11_ofCell 0 = .ok (.iload_n 1, 1) := by decide +kernel
theorem dX11_ofCell_1 : decode cX11_ofCell 1 = .ok (.invokestatic 80, 3) := by decide +kernel
theorem dX11_ofCell_4 : decode cX11_ofCell 4 = .ok (.ifCond .eq 11, 3) := by decide +kernel
theorem dX11_ofCell_7 : decode cX11_ofCell 7 = .ok (.iconst 3, 1) := by decide +kernel
theorem dX11_ofCell_8 : decode cX11_ofCell 8 = .ok (.iload_n 2, 1) := by decide +kernel
theorem dX11_ofCell_9 : decode cX11_ofCell 9 = .ok (.invokestatic 84, 3) := by decide +kernel
theorem dX11_ofCell_12 : decode cX11_ofCell 12 = .ok (.ifCond .ne 9, 3) := by decide +kernel
theorem dX11_ofCell_15 : decode cX11_ofCell 15 = .ok (.aload_n 0, 1) := by decide +kernel
theorem dX11_ofCell_16 : decode cX11_ofCell 16 = .ok (.iconst 1, 1) := by decide +kernel
theorem dX11_ofCell_17 : decode cX11_ofCell 17 = .ok (.invokevirtual 88, 3) := by decide +kernel
theorem dX11_ofCell_20 : decode cX11_ofCell 20 = .ok (.ireturn, 1) := by decide +kernel
theorem dX11_ofCell_21 : decode cX11_ofCell 21 = .ok (.iload_n 2, 1) := by decide +kernel
theorem dX11_ofCell_22 : decode cX11_ofCell 22 = .ok (.tableswitch 57 0 2 #[26, 36, 48], 26) := by decide +kernel
theorem dX11_ofCell_48 : decode cX11_ofCell 48 = .ok (.aload_n 0, 1) := by decide +kernel
theorem dX11_ofCell_49 : decode cX11_ofCell 49 = .ok (.getfield 38, 3) := by decide +kernel
theorem dX11_ofCell_52 : decode cX11_ofCell 52 = .ok (.getfield 92, 3) := by decide +kernel
theorem dX11_ofCell_55 : decode cX11_ofCell 55 = .ok (.iload_n 1, 1) := by decide +kernel
theorem dX11_ofCell_56 : decode cX11_ofCell 56 = .ok (.iaload, 1) := by decide +kernel
theorem dX11_ofCell_57 : decode cX11_ofCell 57 = .ok (.ireturn, 1) := by decide +kernel
theorem dX11_ofCell_58 : decode cX11_ofCell 58 = .ok (.aload_n 0, 1) := by decide +kernel
theorem dX11_ofCell_59 : decode cX11_ofCell 59 = .ok (.getfield 38, 3) := by decide +kernel
theorem dX11_ofCell_62 : decode cX11_ofCell 62 = .ok (.getfield 95, 3) := by decide +kernel
theorem dX11_ofCell_65 : decode cX11_ofCell 65 = .ok (.iload_n 1, 1) := by decide +kernel
theorem dX11_ofCell_66 : decode cX11_ofCell 66 = .ok (.ishr, 1) := by decide +kernel
theorem dX11_ofCell_67 : decode cX11_ofCell 67 = .ok (.iconst 1, 1) := by decide +kernel
theorem dX11_ofCell_68 : decode cX11_ofCell 68 = .ok (.iand, 1) := by decide +kernel
theorem dX11_ofCell_69 : decode cX11_ofCell 69 = .ok (.ireturn, 1) := by decide +kernel
theorem dX11_ofCell_70 : decode cX11_ofCell 70 = .ok (.aload_n 0, 1) := by decide +kernel
theorem dX11_ofCell_71 : decode cX11_ofCell 71 = .ok (.getfield 38, 3) := by decide +kernel
theorem dX11_ofCell_74 : decode cX11_ofCell 74 = .ok (.iload_n 1, 1) := by decide +kernel
theorem dX11_ofCell_75 : decode cX11_ofCell 75 = .ok (.invokevirtual 99, 3) := by decide +kernel
theorem dX11_ofCell_78 : decode cX11_ofCell 78 = .ok (.ireturn, 1) := by decide +kernel
theorem dX11_ofCell_79 : decode cX11_ofCell 79 = .ok (.iload_n 1, 1) := by decide +kernel
theorem dX11_ofCell_80 : decode cX11_ofCell 80 = .ok (.invokestatic 102, 3) := by decide +kernel
theorem dX11_ofCell_83 : decode cX11_ofCell 83 = .ok (.aload_n 0, 1) := by decide +kernel
theorem dX11_ofCell_84 : decode cX11_ofCell 84 = .ok (.getfield 38, 3) := by decide +kernel
theorem dX11_ofCell_87 : decode cX11_ofCell 87 = .ok (.invokevirtual 105, 3) := by decide +kernel
theorem dX11_ofCell_90 : decode cX11_ofCell 90 = .ok (.iand, 1) := by decide +kernel
theorem dX11_ofCell_91 : decode cX11_ofCell 91 = .ok (.invokestatic 109, 3) := by decide +kernel
theorem dX11_ofCell_94 : decode cX11_ofCell 94 = .ok (.ireturn, 1) := by decide +kernel
theorem u77_0 {d : Nat} {R : gR} {μ : gM} {l0 l2 : Value} {st : List Value} {x : Int32}  : gc_W (gc_S d) cX11_ofCell 11 0 R 0 [l0, .int x, l2] st μ ↔ gc_W (gc_S d) cX11_ofCell 11 0 R 1 [l0, .int x, l2] (.int x :: st) μ := us_iload_n dX11_ofCell_0 rfl
theorem u77_1 {d : Nat} {R : gR} {μ : gM} {L : List Value}  {a0 : Int32}  : gc_W (gc_S d) cX11_ofCell 11 0 R 1 L [.int a0] μ ↔ gc_S d 74 [.int a0] μ (fun v μ' => gc_W (gc_S d) cX11_ofCell 11 0 R 4 L (v.toList ++ []) μ') := us_stat dX11_ofCell_1 gs_11_80 gne_11_80 gn_11_80 gc_11_80_97 rfl rfl rfl rfl
theorem u77_4 {d : Nat} {R : gR} {μ : gM} {L : List Value} {st : List Value} {x : Int32}  : gc_W (gc_S d) cX11_ofCell 11 0 R 4 L (.int x :: st) μ ↔ if x = 0 then gc_W (gc_S d) cX11_ofCell 11 0 R 15 L st μ else gc_W (gc_S d) cX11_ofCell 11 0 R 7 L st μ := us_ifeq dX11_ofCell_4 rfl
theorem u77_7 {d : Nat} {R : gR} {μ : gM} {L : List Value} {st : List Value}   : gc_W (gc_S d) cX11_ofCell 11 0 R 7 L st μ ↔ gc_W (gc_S d) cX11_ofCell 11 0 R 8 L (.int 3 :: st) μ := us_iconst dX11_ofCell_7 ci_iconst_3
theorem u77_8 {d : Nat} {R : gR} {μ : gM} {l0 l1 : Value} {st : List Value} {x : Int32}  : gc_W (gc_S d) cX11_ofCell 11 0 R 8 [l0, l1, .int x] st μ ↔ gc_W (gc_S d) cX11_ofCell 11 0 R 9 [l0, l1, .int x] (.int x :: st) μ := us_iload_n dX11_ofCell_8 rfl
theorem u77_9 {d : Nat} {R : gR} {μ : gM} {L : List Value}  {a0 a1 : Int32}  : gc_W (gc_S d) cX11_ofCell 11 0 R 9 L [.int a1, .int a0] μ ↔ gc_S d 73 [.int a0, .int a1] μ (fun v μ' => gc_W (gc_S d) cX11_ofCell 11 0 R 12 L (v.toList ++ []) μ') := us_stat dX11_ofCell_9 gs_11_84 gne_11_84 gn_11_84 gc_11_84_97 rfl rfl rfl rfl
theorem u77_12 {d : Nat} {R : gR} {μ : gM} {L : List Value} {st : List Value} {x : Int32}  : gc_W (gc_S d) cX11_ofCell 11 0 R 12 L (.int x :: st) μ ↔ if x = 0 then gc_W (gc_S d) cX11_ofCell 11 0 R 15 L st μ else gc_W (gc_S d) cX11_ofCell 11 0 R 21 L st μ := us_ifne dX11_ofCell_12 rfl
theorem u77_15 {d : Nat} {R : gR} {μ : gM} {l1 l2 : Value} {st : List Value} {x : Nat}  : gc_W (gc_S d) cX11_ofCell 11 0 R 15 [.ref x, l1, l2] st μ ↔ gc_W (gc_S d) cX11_ofCell 11 0 R 16 [.ref x, l1, l2] (.ref x :: st) μ := us_aload_n dX11_ofCell_15 rfl
theorem u77_16 {d : Nat} {R : gR} {μ : gM} {L : List Value} {st : List Value}   : gc_W (gc_S d) cX11_ofCell 11 0 R 16 L st μ ↔ gc_W (gc_S d) cX11_ofCell 11 0 R 17 L (.int 1 :: st) μ := us_iconst dX11_ofCell_16 ci_iconst_1
theorem u77_17 {d : Nat} {R : gR} {μ : gM} {L : List Value} {o : Nat} {a0 : Int32} (hk : gc_kd o = 11) : gc_W (gc_S d) cX11_ofCell 11 0 R 17 L [.int a0, .ref o] μ ↔ gc_S d 75 [.ref o, .int a0] μ (fun v μ' => gc_W (gc_S d) cX11_ofCell 11 0 R 20 L (v.toList ++ []) μ') := us_virt dX11_ofCell_17 gn_11_88 gc_11_88_11 hk rfl rfl rfl rfl rfl
theorem u77_20 {d : Nat} {R : gR} {μ : gM} {L : List Value} {v : Int32}  : gc_W (gc_S d) cX11_ofCell 11 0 R 20 L [.int v] μ ↔ R (some (.int v)) μ := us_iret dX11_ofCell_20 rfl
theorem u77_21 {d : Nat} {R : gR} {μ : gM} {l0 l1 : Value} {st : List Value} {x : Int32}  : gc_W (gc_S d) cX11_ofCell 11 0 R 21 [l0, l1, .int x] st μ ↔ gc_W (gc_S d) cX11_ofCell 11 0 R 22 [l0, l1, .int x] (.int x :: st) μ := us_iload_n dX11_ofCell_21 rfl
theorem u77_22 {d : Nat} {R : gR} {μ : gM} {L : List Value} {st : List Value} {x : Int32}  : gc_W (gc_S d) cX11_ofCell 11 0 R 22 L (.int x :: st) μ ↔ if x = 0 then gc_W (gc_S d) cX11_ofCell 11 0 R 48 L st μ else (if x = 1 then gc_W (gc_S d) cX11_ofCell 11 0 R 58 L st μ else (if x = 2 then gc_W (gc_S d) cX11_ofCell 11 0 R 70 L st μ else (gc_W (gc_S d) cX11_ofCell 11 0 R 79 L st μ))) := us_tsw [(0, 48), (1, 58), (2, 70)] dX11_ofCell_22 rfl (by decide) (by decide +kernel) (dt := 79) rfl
theorem u77_48 {d : Nat} {R : gR} {μ : gM} {l1 l2 : Value} {st : List Value} {x : Nat}  : gc_W (gc_S d) cX11_ofCell 11 0 R 48 [.ref x, l1, l2] st μ ↔ gc_W (gc_S d) cX11_ofCell 11 0 R 49 [.ref x, l1, l2] (.ref x :: st) μ := us_aload_n dX11_ofCell_48 rfl
theorem u77_49 {d : Nat} {R : gR} {μ : gM} {L : List Value} {st : List Value} {o : Nat} (hk : gc_kd o = 11) : gc_W (gc_S d) cX11_ofCell 11 0 R 49 L (.ref o :: st) μ ↔ gc_W (gc_S d) cX11_ofCell 11 0 R 52 L (gc_fv o 0 μ :: st) μ := us_getf dX11_ofCell_49 gf_11_38 hk
theorem u77_52 {d : Nat} {R : gR} {μ : gM} {L : List Value} {st : List Value} {o : Nat} (hk : gc_kd o = 0) : gc_W (gc_S d) cX11_ofCell 11 0 R 52 L (.ref o :: st) μ ↔ gc_W (gc_S d) cX11_ofCell 11 0 R 55 L (gc_fv o 2 μ :: st) μ := us_getf dX11_ofCell_52 gf_11_92 hk
theorem u77_55 {d : Nat} {R : gR} {μ : gM} {l0 l2 : Value} {st : List Value} {x : Int32}  : gc_W (gc_S d) cX11_ofCell 11 0 R 55 [l0, .int x, l2] st μ ↔ gc_W (gc_S d) cX11_ofCell 11 0 R 56 [l0, .int x, l2] (.int x :: st) μ := us_iload_n dX11_ofCell_55 rfl
theorem u77_56 {d : Nat} {R : gR} {μ : gM} {L : List Value} {st : List Value} {o : Nat} {i : Int32} (hk : gc_kd o = 20) : gc_W (gc_S d) cX11_ofCell 11 0 R 56 L (.int i :: .ref o :: st) μ ↔ (vp_in i (gc_al o) ∧ gc_W (gc_S d) cX11_ofCell 11 0 R 57 L (.int (μ o i.toNatClampNeg) :: st) μ) := us_iald dX11_ofCell_56 hk
theorem u77_57 {d : Nat} {R : gR} {μ : gM} {L : List Value} {v : Int32}  : gc_W (gc_S d) cX11_ofCell 11 0 R 57 L [.int v] μ ↔ R (some (.int v)) μ := us_iret dX11_ofCell_57 rfl
theorem u77_58 {d : Nat} {R : gR} {μ : gM} {l1 l2 : Value} {st : List Value} {x : Nat}  : gc_W (gc_S d) cX11_ofCell 11 0 R 58 [.ref x, l1, l2] st μ ↔ gc_W (gc_S d) cX11_ofCell 11 0 R 59 [.ref x, l1, l2] (.ref x :: st) μ := us_aload_n dX11_ofCell_58 rfl
theorem u77_59 {d : Nat} {R : gR} {μ : gM} {L : List Value} {st : List Value} {o : Nat} (hk : gc_kd o = 11) : gc_W (gc_S d) cX11_ofCell 11 0 R 59 L (.ref o :: st) μ ↔ gc_W (gc_S d) cX11_ofCell 11 0 R 62 L (gc_fv o 0 μ :: st) μ := us_getf dX11_ofCell_59 gf_11_38 hk
theorem u77_62 {d : Nat} {R : gR} {μ : gM} {L : List Value} {st : List Value} {o : Nat} (hk : gc_kd o = 0) : gc_W (gc_S d) cX11_ofCell 11 0 R 62 L (.ref o :: st) μ ↔ gc_W (gc_S d) cX11_ofCell 11 0 R 65 L (gc_fv o 11 μ :: st) μ := us_getf dX11_ofCell_62 gf_11_95 hk
theorem u77_65 {d : Nat} {R : gR} {μ : gM} {l0 l2 : Value} {st : List Value} {x : Int32}  : gc_W (gc_S d) cX11_ofCell 11 0 R 65 [l0, .int x, l2] st μ ↔ gc_W (gc_S d) cX11_ofCell 11 0 R 66 [l0, .int x, l2] (.int x :: st) μ := us_iload_n dX11_ofCell_65 rfl
theorem u77_66 {d : Nat} {R : gR} {μ : gM} {L : List Value} {st : List Value} {x y : Int32}  : gc_W (gc_S d) cX11_ofCell 11 0 R 66 L (.int y :: .int x :: st) μ ↔ gc_W (gc_S d) cX11_ofCell 11 0 R 67 L (.int (x >>> (y &&& 31)) :: st) μ := us_ishr dX11_ofCell_66
theorem u77_67 {d : Nat} {R : gR} {μ : gM} {L : List Value} {st : List Value}   : gc_W (gc_S d) cX11_ofCell 11 0 R 67 L st μ ↔ gc_W (gc_S d) cX11_ofCell 11 0 R 68 L (.int 1 :: st) μ := us_iconst dX11_ofCell_67 ci_iconst_1
theorem u77_68 {d : Nat} {R : gR} {μ : gM} {L : List Value} {st : List Value} {x y : Int32}  : gc_W (gc_S d) cX11_ofCell 11 0 R 68 L (.int y :: .int x :: st) μ ↔ gc_W (gc_S d) cX11_ofCell 11 0 R 69 L (.int (x &&& y) :: st) μ := us_iand dX11_ofCell_68
theorem u77_69 {d : Nat} {R : gR} {μ : gM} {L : List Value} {v : Int32}  : gc_W (gc_S d) cX11_ofCell 11 0 R 69 L [.int v] μ ↔ R (some (.int v)) μ := us_iret dX11_ofCell_69 rfl
theorem u77_70 {d : Nat} {R : gR} {μ : gM} {l1 l2 : Value} {st : List Value} {x : Nat}  : gc_W (gc_S d) cX11_ofCell 11 0 R 70 [.ref x, l1, l2] st μ ↔ gc_W (gc_S d) cX11_ofCell 11 0 R 71 [.ref x, l1, l2] (.ref x :: st) μ := us_aload_n dX11_ofCell_70 rfl
theorem u77_71 {d : Nat} {R : gR} {μ : gM} {L : List Value} {st : List Value} {o : Nat} (hk : gc_kd o = 11) : gc_W (gc_S d) cX11_ofCell 11 0 R 71 L (.ref o :: st) μ ↔ gc_W (gc_S d) cX11_ofCell 11 0 R 74 L (gc_fv o 0 μ :: st) μ := us_getf dX11_ofCell_71 gf_11_38 hk
theorem u77_74 {d : Nat} {R : gR} {μ : gM} {l0 l2 : Value} {st : List Value} {x : Int32}  : gc_W (gc_S d) cX11_ofCell 11 0 R 74 [l0, .int x, l2] st μ ↔ gc_W (gc_S d) cX11_ofCell 11 0 R 75 [l0, .int x, l2] (.int x :: st) μ := us_iload_n dX11_ofCell_74 rfl
theorem u77_75 {d : Nat} {R : gR} {μ : gM} {L : List Value} {o : Nat} {a0 : Int32} (hk : gc_kd o = 0) : gc_W (gc_S d) cX11_ofCell 11 0 R 75 L [.int a0, .ref o] μ ↔ gc_S d 7 [.ref o, .int a0] μ (fun v μ' => gc_W (gc_S d) cX11_ofCell 11 0 R 78 L (v.toList ++ []) μ') := us_virt dX11_ofCell_75 gn_11_99 gc_11_99_0 hk rfl rfl rfl rfl rfl
theorem u77_78 {d : Nat} {R : gR} {μ : gM} {L : List Value} {v : Int32}  : gc_W (gc_S d) cX11_ofCell 11 0 R 78 L [.int v] μ ↔ R (some (.int v)) μ := us_iret dX11_ofCell_78 rfl
theorem u77_79 {d : Nat} {R : gR} {μ : gM} {l0 l2 : Value} {st : List Value} {x : Int32}  : gc_W (gc_S d) cX11_ofCell 11 0 R 79 [l0, .int x, l2] st μ ↔ gc_W (gc_S d) cX11_ofCell 11 0 R 80 [l0, .int x, l2] (.int x :: st) μ := us_iload_n dX11_ofCell_79 rfl
theorem u77_80 {d : Nat} {R : gR} {μ : gM} {L : List Value}  {a0 : Int32}  : gc_W (gc_S d) cX11_ofCell 11 0 R 80 L [.int a0] μ ↔ gc_S d 29 [.int a0] μ (fun v μ' => gc_W (gc_S d) cX11_ofCell 11 0 R 83 L (v.toList ++ []) μ') := us_stat dX11_ofCell_80 gs_11_102 gne_11_102 gn_11_102 gc_11_102_97 rfl rfl rfl rfl
theorem u77_83 {d : Nat} {R : gR} {μ : gM} {l1 l2 : Value} {st : List Value} {x : Nat}  : gc_W (gc_S d) cX11_ofCell 11 0 R 83 [.ref x, l1, l2] st μ ↔ gc_W (gc_S d) cX11_ofCell 11 0 R 84 [.ref x, l1, l2] (.ref x :: st) μ := us_aload_n dX11_ofCell_83 rfl
theorem u77_84 {d : Nat} {R : gR} {μ : gM} {L : List Value} {st : List Value} {o : Nat} (hk : gc_kd o = 11) : gc_W (gc_S d) cX11_ofCell 11 0 R 84 L (.ref o :: st) μ ↔ gc_W (gc_S d) cX11_ofCell 11 0 R 87 L (gc_fv o 0 μ :: st) μ := us_getf dX11_ofCell_84 gf_11_38 hk
theorem u77_87 {d : Nat} {R : gR} {μ : gM} {L : List Value} {o : Nat} {s0 : Value} (hk : gc_kd o = 0) : gc_W (gc_S d) cX11_ofCell 11 0 R 87 L [.ref o, s0] μ ↔ gc_S d 6 [.ref o] μ (fun v μ' => gc_W (gc_S d) cX11_ofCell 11 0 R 90 L (v.toList ++ [s0]) μ') := us_virt dX11_ofCell_87 gn_11_105 gc_11_105_0 hk rfl rfl rfl rfl rfl
theorem u77_90 {d : Nat} {R : gR} {μ : gM} {L : List Value} {st : List Value} {x y : Int32}  : gc_W (gc_S d) cX11_ofCell 11 0 R 90 L (.int y :: .int x :: st) μ ↔ gc_W (gc_S d) cX11_ofCell 11 0 R 91 L (.int (x &&& y) :: st) μ := us_iand dX11_ofCell_90
theorem u77_91 {d : Nat} {R : gR} {μ : gM} {L : List Value}  {a0 : Int32}  : gc_W (gc_S d) cX11_ofCell 11 0 R 91 L [.int a0] μ ↔ gc_S d 30 [.int a0] μ (fun v μ' => gc_W (gc_S d) cX11_ofCell 11 0 R 94 L (v.toList ++ []) μ') := us_stat dX11_ofCell_91 gs_11_109 gne_11_109 gn_11_109 gc_11_109_97 rfl rfl rfl rfl
theorem u77_94 {d : Nat} {R : gR} {μ : gM} {L : List Value} {v : Int32}  : gc_W (gc_S d) cX11_ofCell 11 0 R 94 L [.int v] μ ↔ R (some (.int v)) μ := us_iret dX11_ofCell_94 rfl
theorem s77 {d : Nat} {R : gR} {μ : gM} {o : Nat} {a0 a1 : Int32} : gc_S (d + 1) 77 [.ref o, .int a0, .int a1] μ R ↔ gc_W (gc_S d) cX11_ofCell 11 0 R 0 [.ref o, .int a0, .int a1] [] μ := us_call (gm_77) rfl rfl
theorem dX11_list_0 : decode cX11_list 0 = .ok (.iconst 5, 1) := by decide +kernel
theorem dX11_list_1 : decode cX11_list 1 = .ok (.iload_n 1, 1) := by decide +kernel
theorem dX11_list_2 : decode cX11_list 2 = .ok (.invokestatic 84, 3) := by decide +kernel
theorem dX11_list_5 : decode cX11_list 5 = .ok (.ifCond .eq 12, 3) := by decide +kernel
theorem dX11_list_8 : decode cX11_list 8 = .ok (.bipush 7, 2) := by decide +kernel
theorem dX11_list_10 : decode cX11_list 10 = .ok (.iload_n 2, 1) := by decide +kernel
theorem dX11_list_11 : decode cX11_list 11 = .ok (.invokestatic 84, 3) := by decide +kernel
theorem dX11_list_14 : decode cX11_list 14 = .ok (.ifCond .ne 9, 3) := by decide +kernel
theorem dX11_list_17 : decode cX11_list 17 = .ok (.aload_n 0, 1) := by decide +kernel
theorem dX11_list_18 : decode cX11_list 18 = .ok (.iconst 1, 1) := by decide +kernel
theorem dX11_list_19 : decode cX11_list 19 = .ok (.invokevirtual 88, 3) := by decide +kernel
theorem dX11_list_22 : decode cX11_list 22 = .ok (.ireturn, 1) := by decide +kernel
theorem dX11_list_23 : decode cX11_list 23 = .ok (.aload_n 0, 1) := by decide +kernel
theorem dX11_list_24 : decode cX11_list 24 = .ok (.getfield 38, 3) := by decide +kernel
theorem dX11_list_27 : decode cX11_list 27 = .ok (.getfield 114, 3) := by decide +kernel
theorem dX11_list_30 : decode cX11_list 30 = .ok (.iload_n 1, 1) := by decide +kernel
theorem dX11_list_31 : decode cX11_list 31 = .ok (.iaload, 1) := by decide +kernel
theorem dX11_list_32 : decode cX11_list 32 = .ok (.istore_n 3, 1) := by decide +kernel
theorem dX11_list_33 : decode cX11_list 33 = .ok (.aload_n 0, 1) := by decide +kernel
theorem dX11_list_34 : decode cX11_list 34 = .ok (.getfield 38, 3) := by decide +kernel
theorem dX11_list_37 : decode cX11_list 37 = .ok (.getfield 114, 3) := by decide +kernel
theorem dX11_list_40 : decode cX11_list 40 = .ok (.iload_n 1, 1) := by decide +kernel
theorem dX11_list_41 : decode cX11_list 41 = .ok (.iload_n 2, 1) := by decide +kernel
theorem dX11_list_42 : decode cX11_list 42 = .ok (.iastore, 1) := by decide +kernel
theorem dX11_list_43 : decode cX11_list 43 = .ok (.iload_n 3, 1) := by decide +kernel
theorem dX11_list_44 : decode cX11_list 44 = .ok (.ireturn, 1) := by decide +kernel
theorem u78_0 {d : Nat} {R : gR} {μ : gM} {L : List Value} {st : List Value}   : gc_W (gc_S d) cX11_list 11 0 R 0 L st μ ↔ gc_W (gc_S d) cX11_list 11 0 R 1 L (.int 5 :: st) μ := us_iconst dX11_list_0 ci_iconst_5
theorem u78_1 {d : Nat} {R : gR} {μ : gM} {l0 l2 l3 : Value} {st : List Value} {x : Int32}  : gc_W (gc_S d) cX11_list 11 0 R 1 [l0, .int x, l2, l3] st μ ↔ gc_W (gc_S d) cX11_list 11 0 R 2 [l0, .int x, l2, l3] (.int x :: st) μ := us_iload_n dX11_list_1 rfl
theorem u78_2 {d : Nat} {R : gR} {μ : gM} {L : List Value}  {a0 a1 : Int32}  : gc_W (gc_S d) cX11_list 11 0 R 2 L [.int a1, .int a0] μ ↔ gc_S d 73 [.int a0, .int a1] μ (fun v μ' => gc_W (gc_S d) cX11_list 11 0 R 5 L (v.toList ++ []) μ') := us_stat dX11_list_2 gs_11_84 gne_11_84 gn_11_84 gc_11_84_97 rfl rfl rfl rfl
theorem u78_5 {d : Nat} {R : gR} {μ : gM} {L : List Value} {st : List Value} {x : Int32}  : gc_W (gc_S d) cX11_list 11 0 R 5 L (.int x :: st) μ ↔ if x = 0 then gc_W (gc_S d) cX11_list 11 0 R 17 L st μ else gc_W (gc_S d) cX11_list 11 0 R 8 L st μ := us_ifeq dX11_list_5 rfl
theorem u78_8 {d : Nat} {R : gR} {μ : gM} {L : List Value} {st : List Value}   : gc_W (gc_S d) cX11_list 11 0 R 8 L st μ ↔ gc_W (gc_S d) cX11_list 11 0 R 10 L (.int 7 :: st) μ := us_bipush dX11_list_8 ci_bipush_7
theorem u78_10 {d : Nat} {R : gR} {μ : gM} {l0 l1 l3 : Value} {st : List Value} {x : Int32}  : gc_W (gc_S d) cX11_list 11 0 R 10 [l0, l1, .int x, l3] st μ ↔ gc_W (gc_S d) cX11_list 11 0 R 11 [l0, l1, .int x, l3] (.int x :: st) μ := us_iload_n dX11_list_10 rfl
theorem u78_11 {d : Nat} {R : gR} {μ : gM} {L : List Value}  {a0 a1 : Int32}  : gc_W (gc_S d) cX11_list 11 0 R 11 L [.int a1, .int a0] μ ↔ gc_S d 73 [.int a0, .int a1] μ (fun v μ' => gc_W (gc_S d) cX11_list 11 0 R 14 L (v.toList ++ []) μ') := us_stat dX11_list_11 gs_11_84 gne_11_84 gn_11_84 gc_11_84_97 rfl rfl rfl rfl
theorem u78_14 {d : Nat} {R : gR} {μ : gM} {L : List Value} {st : List Value} {x : Int32}  : gc_W (gc_S d) cX11_list 11 0 R 14 L (.int x :: st) μ ↔ if x = 0 then gc_W (gc_S d) cX11_list 11 0 R 17 L st μ else gc_W (gc_S d) cX11_list 11 0 R 23 L st μ := us_ifne dX11_list_14 rfl
theorem u78_17 {d : Nat} {R : gR} {μ : gM} {l1 l2 l3 : Value} {st : List Value} {x : Nat}  : gc_W (gc_S d) cX11_list 11 0 R 17 [.ref x, l1, l2, l3] st μ ↔ gc_W (gc_S d) cX11_list 11 0 R 18 [.ref x, l1, l2, l3] (.ref x :: st) μ := us_aload_n dX11_list_17 rfl
theorem u78_18 {d : Nat} {R : gR} {μ : gM} {L : List Value} {st : List Value}   : gc_W (gc_S d) cX11_list 11 0 R 18 L st μ ↔ gc_W (gc_S d) cX11_list 11 0 R 19 L (.int 1 :: st) μ := us_iconst dX11_list_18 ci_iconst_1
theorem u78_19 {d : Nat} {R : gR} {μ : gM} {L : List Value} {o : Nat} {a0 : Int32} (hk : gc_kd o = 11) : gc_W (gc_S d) cX11_list 11 0 R 19 L [.int a0, .ref o] μ ↔ gc_S d 75 [.ref o, .int a0] μ (fun v μ' => gc_W (gc_S d) cX11_list 11 0 R 22 L (v.toList ++ []) μ') := us_virt dX11_list_19 gn_11_88 gc_11_88_11 hk rfl rfl rfl rfl rfl
theorem u78_22 {d : Nat} {R : gR} {μ : gM} {L : List Value} {v : Int32}  : gc_W (gc_S d) cX11_list 11 0 R 22 L [.int v] μ ↔ R (some (.int v)) μ := us_iret dX11_list_22 rfl
theorem u78_23 {d : Nat} {R : gR} {μ : gM} {l1 l2 l3 : Value} {st : List Value} {x : Nat}  : gc_W (gc_S d) cX11_list 11 0 R 23 [.ref x, l1, l2, l3] st μ ↔ gc_W (gc_S d) cX11_list 11 0 R 24 [.ref x, l1, l2, l3] (.ref x :: st) μ := us_aload_n dX11_list_23 rfl
theorem u78_24 {d : Nat} {R : gR} {μ : gM} {L : List Value} {st : List Value} {o : Nat} (hk : gc_kd o = 11) : gc_W (gc_S d) cX11_list 11 0 R 24 L (.ref o :: st) μ ↔ gc_W (gc_S d) cX11_list 11 0 R 27 L (gc_fv o 0 μ :: st) μ := us_getf dX11_list_24 gf_11_38 hk
theorem u78_27 {d : Nat} {R : gR} {μ : gM} {L : List Value} {st : List Value} {o : Nat} (hk : gc_kd o = 0) : gc_W (gc_S d) cX11_list 11 0 R 27 L (.ref o :: st) μ ↔ gc_W (gc_S d) cX11_list 11 0 R 30 L (gc_fv o 4 μ :: st) μ := us_getf dX11_list_27 gf_11_114 hk
theorem u78_30 {d : Nat} {R : gR} {μ : gM} {l0 l2 l3 : Value} {st : List Value} {x : Int32}  : gc_W (gc_S d) cX11_list 11 0 R 30 [l0, .int x, l2, l3] st μ ↔ gc_W (gc_S d) cX11_list 11 0 R 31 [l0, .int x, l2, l3] (.int x :: st) μ := us_iload_n dX11_list_30 rfl
theorem u78_31 {d : Nat} {R : gR} {μ : gM} {L : List Value} {st : List Value} {o : Nat} {i : Int32} (hk : gc_kd o = 20) : gc_W (gc_S d) cX11_list 11 0 R 31 L (.int i :: .ref o :: st) μ ↔ (vp_in i (gc_al o) ∧ gc_W (gc_S d) cX11_list 11 0 R 32 L (.int (μ o i.toNatClampNeg) :: st) μ) := us_iald dX11_list_31 hk
theorem u78_32 {d : Nat} {R : gR} {μ : gM} {l0 l1 l2 l3 : Value} {st : List Value} {x : Int32} (hs : gc_sk l3 = true) : gc_W (gc_S d) cX11_list 11 0 R 32 [l0, l1, l2, l3] (.int x :: st) μ ↔ gc_W (gc_S d) cX11_list 11 0 R 33 [l0, l1, l2, .int x] st μ := us_istore_n dX11_list_32 rfl hs
theorem u78_33 {d : Nat} {R : gR} {μ : gM} {l1 l2 l3 : Value} {st : List Value} {x : Nat}  : gc_W (gc_S d) cX11_list 11 0 R 33 [.ref x, l1, l2, l3] st μ ↔ gc_W (gc_S d) cX11_list 11 0 R 34 [.ref x, l1, l2, l3] (.ref x :: st) μ := us_aload_n dX11_list_33 rfl
theorem u78_34 {d : Nat} {R : gR} {μ : gM} {L : List Value} {st : List Value} {o : Nat} (hk : gc_kd o = 11) : gc_W (gc_S d) cX11_list 11 0 R 34 L (.ref o :: st) μ ↔ gc_W (gc_S d) cX11_list 11 0 R 37 L (gc_fv o 0 μ :: st) μ := us_getf dX11_list_34 gf_11_38 hk
theorem u78_37 {d : Nat} {R : gR} {μ : gM} {L : List Value} {st : List Value} {o : Nat} (hk : gc_kd o = 0) : gc_W (gc_S d) cX11_list 11 0 R 37 L (.ref o :: st) μ ↔ gc_W (gc_S d) cX11_list 11 0 R 40 L (gc_fv o 4 μ :: st) μ := us_getf dX11_list_37 gf_11_114 hk
theorem u78_40 {d : Nat} {R : gR} {μ : gM} {l0 l2 l3 : Value} {st : List Value} {x : Int32}  : gc_W (gc_S d) cX11_list 11 0 R 40 [l0, .int x, l2, l3] st μ ↔ gc_W (gc_S d) cX11_list 11 0 R 41 [l0, .int x, l2, l3] (.int x :: st) μ := us_iload_n dX11_list_40 rfl
theorem u78_41 {d : Nat} {R : gR} {μ : gM} {l0 l1 l3 : Value} {st : List Value} {x : Int32}  : gc_W (gc_S d) cX11_list 11 0 R 41 [l0, l1, .int x, l3] st μ ↔ gc_W (gc_S d) cX11_list 11 0 R 42 [l0, l1, .int x, l3] (.int x :: st) μ := us_iload_n dX11_list_41 rfl
theorem u78_42 {d : Nat} {R : gR} {μ : gM} {L : List Value} {st : List Value} {o : Nat} {i x : Int32} (hk : gc_kd o = 20) : gc_W (gc_S d) cX11_list 11 0 R 42 L (.int x :: .int i :: .ref o :: st) μ ↔ (vp_in i (gc_al o) ∧ gc_W (gc_S d) cX11_list 11 0 R 43 L st (gc_up μ o i.toNatClampNeg x)) := us_iast dX11_list_42 hk
theorem u78_43 {d : Nat} {R : gR} {μ : gM} {l0 l1 l2 : Value} {st : List Value} {x : Int32}  : gc_W (gc_S d) cX11_list 11 0 R 43 [l0, l1, l2, .int x] st μ ↔ gc_W (gc_S d) cX11_list 11 0 R 44 [l0, l1, l2, .int x] (.int x :: st) μ := us_iload_n dX11_list_43 rfl
theorem u78_44 {d : Nat} {R : gR} {μ : gM} {L : List Value} {v : Int32}  : gc_W (gc_S d) cX11_list 11 0 R 44 L [.int v] μ ↔ R (some (.int v)) μ := us_iret dX11_list_44 rfl
theorem s78 {d : Nat} {R : gR} {μ : gM} {o : Nat} {a0 a1 : Int32} : gc_S (d + 1) 78 [.ref o, .int a0, .int a1] μ R ↔ gc_W (gc_S d) cX11_list 11 0 R 0 [.ref o, .int a0, .int a1, .retAddr 0] [] μ := us_call (gm_78) rfl rfl
theorem dX11_ofList_0 : decode cX11_ofList 0 = .ok (.iconst 5, 1) := by decide +kernel
theorem dX11_ofList_1 : decode cX11_ofList 1 = .ok (.iload_n 1, 1) := by decide +kernel
theorem dX11_ofList_2 : decode cX11_ofList 2 = .ok (.invokestatic 84, 3) := by decide +kernel
theorem dX11_ofList_5 : decode cX11_ofList 5 = .ok (.ifCond .eq 15, 3) := by decide +kernel
theorem dX11_ofList_8 : decode cX11_ofList 8 = .ok (.aload_n 0, 1) := by decide +kernel
theorem dX11_ofList_9 : decode cX11_ofList 9 = .ok (.getfield 38, 3) := by decide +kernel
theorem dX11_ofList_12 : decode cX11_ofList 12 = .ok (.getfield 114, 3) := by decide +kernel
theorem dX11_ofList_15 : decode cX11_ofList 15 = .ok (.iload_n 1, 1) := by decide +kernel
theorem dX11_ofList_16 : decode cX11_ofList 16 = .ok (.iaload, 1) := by decide +kernel
theorem dX11_ofList_17 : decode cX11_ofList 17 = .ok (.goto 8, 3) := by decide +kernel
theorem dX11_ofList_20 : decode cX11_ofList 20 = .ok (.aload_n 0, 1) := by decide +kernel
theorem dX11_ofList_21 : decode cX11_ofList 21 = .ok (.iconst 1, 1) := by decide +kernel
theorem dX11_ofList_22 : decode cX11_ofList 22 = .ok (.invokevirtual 88, 3) := by decide +kernel
theorem dX11_ofList_25 : decode cX11_ofList 25 = .ok (.ireturn, 1) := by decide +kernel
theorem u79_0 {d : Nat} {R : gR} {μ : gM} {L : List Value} {st : List Value}   : gc_W (gc_S d) cX11_ofList 11 0 R 0 L st μ ↔ gc_W (gc_S d) cX11_ofList 11 0 R 1 L (.int 5 :: st) μ := us_iconst dX11_ofList_0 ci_iconst_5
theorem u79_1 {d : Nat} {R : gR} {μ : gM} {l0 : Value} {st : List Value} {x : Int32}  : gc_W (gc_S d) cX11_ofList 11 0 R 1 [l0, .int x] st μ ↔ gc_W (gc_S d) cX11_ofList 11 0 R 2 [l0, .int x] (.int x :: st) μ := us_iload_n dX11_ofList_1 rfl
theorem u79_2 {d : Nat} {R : gR} {μ : gM} {L : List Value}  {a0 a1 : Int32}  : gc_W (gc_S d) cX11_ofList 11 0 R 2 L [.int a1, .int a0] μ ↔ gc_S d 73 [.int a0, .int a1] μ (fun v μ' => gc_W (gc_S d) cX11_ofList 11 0 R 5 L (v.toList ++ []) μ') := us_stat dX11_ofList_2 gs_11_84 gne_11_84 gn_11_84 gc_11_84_97 rfl rfl rfl rfl
theorem u79_5 {d : Nat} {R : gR} {μ : gM} {L : List Value} {st : List Value} {x : Int32}  : gc_W (gc_S d) cX11_ofList 11 0 R 5 L (.int x :: st) μ ↔ if x = 0 then gc_W (gc_S d) cX11_ofList 11 0 R 20 L st μ else gc_W (gc_S d) cX11_ofList 11 0 R 8 L st μ := us_ifeq dX11_ofList_5 rfl
theorem u79_8 {d : Nat} {R : gR} {μ : gM} {l1 : Value} {st : List Value} {x : Nat}  : gc_W (gc_S d) cX11_ofList 11 0 R 8 [.ref x, l1] st μ ↔ gc_W (gc_S d) cX11_ofList 11 0 R 9 [.ref x, l1] (.ref x :: st) μ := us_aload_n dX11_ofList_8 rfl
theorem u79_9 {d : Nat} {R : gR} {μ : gM} {L : List Value} {st : List Value} {o : Nat} (hk : gc_kd o = 11) : gc_W (gc_S d) cX11_ofList 11 0 R 9 L (.ref o :: st) μ ↔ gc_W (gc_S d) cX11_ofList 11 0 R 12 L (gc_fv o 0 μ :: st) μ := us_getf dX11_ofList_9 gf_11_38 hk
theorem u79_12 {d : Nat} {R : gR} {μ : gM} {L : List Value} {st : List Value} {o : Nat} (hk : gc_kd o = 0) : gc_W (gc_S d) cX11_ofList 11 0 R 12 L (.ref o :: st) μ ↔ gc_W (gc_S d) cX11_ofList 11 0 R 15 L (gc_fv o 4 μ :: st) μ := us_getf dX11_ofList_12 gf_11_114 hk
theorem u79_15 {d : Nat} {R : gR} {μ : gM} {l0 : Value} {st : List Value} {x : Int32}  : gc_W (gc_S d) cX11_ofList 11 0 R 15 [l0, .int x] st μ ↔ gc_W (gc_S d) cX11_ofList 11 0 R 16 [l0, .int x] (.int x :: st) μ := us_iload_n dX11_ofList_15 rfl
theorem u79_16 {d : Nat} {R : gR} {μ : gM} {L : List Value} {st : List Value} {o : Nat} {i : Int32} (hk : gc_kd o = 20) : gc_W (gc_S d) cX11_ofList 11 0 R 16 L (.int i :: .ref o :: st) μ ↔ (vp_in i (gc_al o) ∧ gc_W (gc_S d) cX11_ofList 11 0 R 17 L (.int (μ o i.toNatClampNeg) :: st) μ) := us_iald dX11_ofList_16 hk
theorem u79_17 {d : Nat} {R : gR} {μ : gM} {L : List Value} {st : List Value}  : gc_W (gc_S d) cX11_ofList 11 0 R 17 L st μ ↔ gc_W (gc_S d) cX11_ofList 11 0 R 25 L st μ := us_goto dX11_ofList_17 rfl
theorem u79_20 {d : Nat} {R : gR} {μ : gM} {l1 : Value} {st : List Value} {x : Nat}  : gc_W (gc_S d) cX11_ofList 11 0 R 20 [.ref x, l1] st μ ↔ gc_W (gc_S d) cX11_ofList 11 0 R 21 [.ref x, l1] (.ref x :: st) μ := us_aload_n dX11_ofList_20 rfl
theorem u79_21 {d : Nat} {R : gR} {μ : gM} {L : List Value} {st : List Value}   : gc_W (gc_S d) cX11_ofList 11 0 R 21 L st μ ↔ gc_W (gc_S d) cX11_ofList 11 0 R 22 L (.int 1 :: st) μ := us_iconst dX11_ofList_21 ci_iconst_1
theorem u79_22 {d : Nat} {R : gR} {μ : gM} {L : List Value} {o : Nat} {a0 : Int32} (hk : gc_kd o = 11) : gc_W (gc_S d) cX11_ofList 11 0 R 22 L [.int a0, .ref o] μ ↔ gc_S d 75 [.ref o, .int a0] μ (fun v μ' => gc_W (gc_S d) cX11_ofList 11 0 R 25 L (v.toList ++ []) μ') := us_virt dX11_ofList_22 gn_11_88 gc_11_88_11 hk rfl rfl rfl rfl rfl
theorem u79_25 {d : Nat} {R : gR} {μ : gM} {L : List Value} {v : Int32}  : gc_W (gc_S d) cX11_ofList 11 0 R 25 L [.int v] μ ↔ R (some (.int v)) μ := us_iret dX11_ofList_25 rfl
theorem s79 {d : Nat} {R : gR} {μ : gM} {o : Nat} {a0 : Int32} : gc_S (d + 1) 79 [.ref o, .int a0] μ R ↔ gc_W (gc_S d) cX11_ofList 11 0 R 0 [.ref o, .int a0] [] μ := us_call (gm_79) rfl rfl
theorem dX11_isKindAndNumber_0 : decode cX11_isKindAndNumber 0 = .ok (.bipush 69, 2) := by decide +kernel
theorem dX11_isKindAndNumber_2 : decode cX11_isKindAndNumber 2 = .ok (.iload_n 0, 1) := by decide +kernel
theorem dX11_isKindAndNumber_3 : decode cX11_isKindAndNumber 3 = .ok (.invokestatic 84, 3) := by decide +kernel
theorem dX11_isKindAndNumber_6 : decode cX11_isKindAndNumber 6 = .ok (.ireturn, 1) := by decide +kernel
theorem u80_0 {d : Nat} {R : gR} {μ : gM} {L : List Value} {st : List Value}   : gc_W (gc_S d) cX11_isKindAndNumber 11 1 R 0 L st μ ↔ gc_W (gc_S d) cX11_isKindAndNumber 11 1 R 2 L (.int 69 :: st) μ := us_bipush dX11_isKindAndNumber_0 ci_bipush_69
theorem u80_2 {d : Nat} {R : gR} {μ : gM} {st : List Value} {x : Int32}  : gc_W (gc_S d) cX11_isKindAndNumber 11 1 R 2 [.int x] st μ ↔ gc_W (gc_S d) cX11_isKindAndNumber 11 1 R 3 [.int x] (.int x :: st) μ := us_iload_n dX11_isKindAndNumber_2 rfl
theorem u80_3 {d : Nat} {R : gR} {μ : gM} {L : List Value}  {a0 a1 : Int32}  : gc_W (gc_S d) cX11_isKindAndNumber 11 1 R 3 L [.int a1, .int a0] μ ↔ gc_S d 73 [.int a0, .int a1] μ (fun v μ' => gc_W (gc_S d) cX11_isKindAndNumber 11 1 R 6 L (v.toList ++ []) μ') := us_stat dX11_isKindAndNumber_3 gs_11_84 gne_11_84 gn_11_84 gc_11_84_97 rfl rfl rfl rfl
theorem u80_6 {d : Nat} {R : gR} {μ : gM} {L : List Value} {v : Int32}  : gc_W (gc_S d) cX11_isKindAndNumber 11 1 R 6 L [.int v] μ ↔ ((v = 0 ∨ v = 1) ∧ R (some (.int v)) μ) := us_zret dX11_isKindAndNumber_6 rfl
theorem s80 {d : Nat} {R : gR} {μ : gM} {a0 : Int32} : gc_S (d + 1) 80 [.int a0] μ R ↔ gc_W (gc_S d) cX11_isKindAndNumber 11 1 R 0 [.int a0] [] μ := us_call (gm_80) rfl rfl
theorem dX11_mourner_0 : decode cX11_mourner 0 = .ok (.iload_n 1, 1) := by decide +kernel
theorem dX11_mourner_1 : decode cX11_mourner 1 = .ok (.invokestatic 117, 3) := by decide +kernel
theorem dX11_mourner_4 : decode cX11_mourner 4 = .ok (.ifCond .eq 19, 3) := by decide +kernel
theorem dX11_mourner_7 : decode cX11_mourner 7 = .ok (.bipush 99, 2) := by decide +kernel
theorem dX11_mourner_9 : decode cX11_mourner 9 = .ok (.iload_n 2, 1) := by decide +kernel
theorem dX11_mourner_10 : decode cX11_mourner 10 = .ok (.invokestatic 84, 3) := by decide +kernel
theorem dX11_mourner_13 : decode cX11_mourner 13 = .ok (.ifCond .eq 10, 3) := by decide +kernel
theorem dX11_mourner_16 : decode cX11_mourner 16 = .ok (.iload_n 3, 1) := by decide +kernel
theorem dX11_mourner_17 : decode cX11_mourner 17 = .ok (.invokestatic 80, 3) := by decide +kernel
theorem dX11_mourner_20 : decode cX11_mourner 20 = .ok (.ifCond .ne 9, 3) := by decide +kernel
theorem dX11_mourner_23 : decode cX11_mourner 23 = .ok (.aload_n 0, 1) := by decide +kernel
theorem dX11_mourner_24 : decode cX11_mourner 24 = .ok (.iconst 1, 1) := by decide +kernel
theorem dX11_mourner_25 : decode cX11_mourner 25 = .ok (.invokevirtual 88, 3) := by decide +kernel
theorem dX11_mourner_28 : decode cX11_mourner 28 = .ok (.ireturn, 1) := by decide +kernel
theorem dX11_mourner_29 : decode cX11_mourner 29 = .ok (.aload_n 0, 1) := by decide +kernel
theorem dX11_mourner_30 : decode cX11_mourner 30 = .ok (.getfield 38, 3) := by decide +kernel
theorem dX11_mourner_33 : decode cX11_mourner 33 = .ok (.getfield 120, 3) := by decide +kernel
theorem dX11_mourner_36 : decode cX11_mourner 36 = .ok (.bipush 8, 2) := by decide +kernel
theorem dX11_mourner_38 : decode cX11_mourner 38 = .ok (.if_icmp .lt 9, 3) := by decide +kernel
theorem dX11_mourner_41 : decode cX11_mourner 41 = .ok (.aload_n 0, 1) := by decide +kernel
theorem dX11_mourner_42 : decode cX11_mourner 42 = .ok (.iconst 4, 1) := by decide +kernel
theorem dX11_mourner_43 : decode cX11_mourner 43 = .ok (.invokevirtual 88, 3) := by decide +kernel
theorem dX11_mourner_46 : decode cX11_mourner 46 = .ok (.ireturn, 1) := by decide +kernel
theorem dX11_mourner_47 : decode cX11_mourner 47 = .ok (.aload_n 0, 1) := by decide +kernel
theorem dX11_mourner_48 : decode cX11_mourner 48 = .ok (.getfield 38, 3) := by decide +kernel
theorem dX11_mourner_51 : decode cX11_mourner 51 = .ok (.getfield 120, 3) := by decide +kernel
theorem dX11_mourner_54 : decode cX11_mourner 54 = .ok (.istore 4, 2) := by decide +kernel
theorem dX11_mourner_56 : decode cX11_mourner 56 = .ok (.aload_n 0, 1) := by decide +kernel
theorem dX11_mourner_57 : decode cX11_mourner 57 = .ok (.getfield 38, 3) := by decide +kernel
theorem dX11_mourner_60 : decode cX11_mourner 60 = .ok (.dup, 1) := by decide +kernel
theorem dX11_mourner_61 : decode cX11_mourner 61 = .ok (.getfield 120, 3) := by decide +kernel
theorem dX11_mourner_64 : decode cX11_mourner 64 = .ok (.iconst 1, 1) := by decide +kernel
theorem dX11_mourner_65 : decode cX11_mourner 65 = .ok (.iadd, 1) := by decide +kernel
theorem dX11_mourner_66 : decode cX11_mourner 66 = .ok (.putfield 120, 3) := by decide +kernel
theorem dX11_mourner_69 : decode cX11_mourner 69 = .ok (.aload_n 0, 1) := by decide +kernel
theorem dX11_mourner_70 : decode cX11_mourner 70 = .ok (.getfield 38, 3) := by decide +kernel
theorem dX11_mourner_73 : decode cX11_mourner 73 = .ok (.getfield 123, 3) := by decide +kernel
theorem dX11_mourner_76 : decode cX11_mourner 76 = .ok (.iload 4, 2) := by decide +kernel
theorem dX11_mourner_78 : decode cX11_mourner 78 = .ok (.iload_n 1, 1) := by decide +kernel
theorem dX11_mourner_79 : decode cX11_mourner 79 = .ok (.bipush 10, 2) := by decide +kernel
theorem dX11_mourner_81 : decode cX11_mourner 81 = .ok (.idiv, 1) := by decide +kernel
theorem dX11_mourner_82 : decode cX11_mourner 82 = .ok (.iastore, 1) := by decide +kernel
theorem dX11_mourner_83 : decode cX11_mourner 83 = .ok (.aload_n 0, 1) := by decide +kernel
theorem dX11_mourner_84 : decode cX11_mourner 84 = .ok (.getfield 38, 3) := by decide +kernel
theorem dX11_mourner_87 : decode cX11_mourner 87 = .ok (.getfield 126, 3) := by decide +kernel
theorem dX11_mourner_90 : decode cX11_mourner 90 = .ok (.iload 4, 2) := by decide +kernel
theorem dX11_mourner_92 : decode cX11_mourner 92 = .ok (.iload_n 1, 1) := by decide +kernel
theorem dX11_mourner_93 : decode cX11_mourner 93 = .ok (.bipush 10, 2) := by decide +kernel
theorem dX11_mourner_95 : decode cX11_mourner 95 = .ok (.irem, 1) := by decide +kernel
theorem dX11_mourner_96 : decode cX11_mourner 96 = .ok (.iastore, 1) := by decide +kernel
theorem dX11_mourner_97 : decode cX11_mourner 97 = .ok (.aload_n 0, 1) := by decide +kernel
theorem dX11_mourner_98 : decode cX11_mourner 98 = .ok (.getfield 38, 3) := by decide +kernel
theorem dX11_mourner_101 : decode cX11_mourner 101 = .ok (.getfield 129, 3) := by decide +kernel
theorem dX11_mourner_104 : decode cX11_mourner 104 = .ok (.iload 4, 2) := by decide +kernel
theorem dX11_mourner_106 : decode cX11_mourner 106 = .ok (.iload_n 2, 1) := by decide +kernel
theorem dX11_mourner_107 : decode cX11_mourner 107 = .ok (.iastore, 1) := by decide +kernel
theorem dX11_mourner_108 : decode cX11_mourner 108 = .ok (.aload_n 0, 1) := by decide +kernel
theorem dX11_mourner_109 : decode cX11_mourner 109 = .ok (.getfield 38, 3) := by decide +kernel
theorem dX11_mourner_112 : decode cX11_mourner 112 = .ok (.getfield 132, 3) := by decide +kernel
theorem dX11_mourner_115 : decode cX11_mourner 115 = .ok (.iload 4, 2) := by decide +kernel
theorem dX11_mourner_117 : decode cX11_mourner 117 = .ok (.iload_n 3, 1) := by decide +kernel
theorem dX11_mourner_118 : decode cX11_mourner 118 = .ok (.iastore, 1) := by decide +kernel
theorem dX11_mourner_119 : decode cX11_mourner 119 = .ok (.iload 4, 2) := by decide +kernel
theorem dX11_mourner_121 : decode cX11_mourner 121 = .ok (.ireturn, 1) := by decide +kernel
theorem u81_0 {d : Nat} {R : gR} {μ : gM} {l0 l2 l3 l4 : Value} {st : List Value} {x : Int32}  : gc_W (gc_S d) cX11_mourner 11 0 R 0 [l0, .int x, l2, l3, l4] st μ ↔ gc_W (gc_S d) cX11_mourner 11 0 R 1 [l0, .int x, l2, l3, l4] (.int x :: st) μ := us_iload_n dX11_mourner_0 rfl
theorem u81_1 {d : Nat} {R : gR} {μ : gM} {L : List Value}  {a0 : Int32}  : gc_W (gc_S d) cX11_mourner 11 0 R 1 L [.int a0] μ ↔ gc_S d 80 [.int a0] μ (fun v μ' => gc_W (gc_S d) cX11_mourner 11 0 R 4 L (v.toList ++ []) μ') := us_stat dX11_mourner_1 gs_11_117 gne_11_117 gn_11_117 gc_11_117_97 rfl rfl rfl rfl
theorem u81_4 {d : Nat} {R : gR} {μ : gM} {L : List Value} {st : List Value} {x : Int32}  : gc_W (gc_S d) cX11_mourner 11 0 R 4 L (.int x :: st) μ ↔ if x = 0 then gc_W (gc_S d) cX11_mourner 11 0 R 23 L st μ else gc_W (gc_S d) cX11_mourner 11 0 R 7 L st μ := us_ifeq dX11_mourner_4 rfl
theorem u81_7 {d : Nat} {R : gR} {μ : gM} {L : List Value} {st : List Value}   : gc_W (gc_S d) cX11_mourner 11 0 R 7 L st μ ↔ gc_W (gc_S d) cX11_mourner 11 0 R 9 L (.int 99 :: st) μ := us_bipush dX11_mourner_7 ci_bipush_99
theorem u81_9 {d : Nat} {R : gR} {μ : gM} {l0 l1 l3 l4 : Value} {st : List Value} {x : Int32}  : gc_W (gc_S d) cX11_mourner 11 0 R 9 [l0, l1, .int x, l3, l4] st μ ↔ gc_W (gc_S d) cX11_mourner 11 0 R 10 [l0, l1, .int x, l3, l4] (.int x :: st) μ := us_iload_n dX11_mourner_9 rfl
theorem u81_10 {d : Nat} {R : gR} {μ : gM} {L : List Value}  {a0 a1 : Int32}  : gc_W (gc_S d) cX11_mourner 11 0 R 10 L [.int a1, .int a0] μ ↔ gc_S d 73 [.int a0, .int a1] μ (fun v μ' => gc_W (gc_S d) cX11_mourner 11 0 R 13 L (v.toList ++ []) μ') := us_stat dX11_mourner_10 gs_11_84 gne_11_84 gn_11_84 gc_11_84_97 rfl rfl rfl rfl
theorem u81_13 {d : Nat} {R : gR} {μ : gM} {L : List Value} {st : List Value} {x : Int32}  : gc_W (gc_S d) cX11_mourner 11 0 R 13 L (.int x :: st) μ ↔ if x = 0 then gc_W (gc_S d) cX11_mourner 11 0 R 23 L st μ else gc_W (gc_S d) cX11_mourner 11 0 R 16 L st μ := us_ifeq dX11_mourner_13 rfl
theorem u81_16 {d : Nat} {R : gR} {μ : gM} {l0 l1 l2 l4 : Value} {st : List Value} {x : Int32}  : gc_W (gc_S d) cX11_mourner 11 0 R 16 [l0, l1, l2, .int x, l4] st μ ↔ gc_W (gc_S d) cX11_mourner 11 0 R 17 [l0, l1, l2, .int x, l4] (.int x :: st) μ := us_iload_n dX11_mourner_16 rfl
theorem u81_17 {d : Nat} {R : gR} {μ : gM} {L : List Value}  {a0 : Int32}  : gc_W (gc_S d) cX11_mourner 11 0 R 17 L [.int a0] μ ↔ gc_S d 74 [.int a0] μ (fun v μ' => gc_W (gc_S d) cX11_mourner 11 0 R 20 L (v.toList ++ []) μ') := us_stat dX11_mourner_17 gs_11_80 gne_11_80 gn_11_80 gc_11_80_97 rfl rfl rfl rfl
theorem u81_20 {d : Nat} {R : gR} {μ : gM} {L : List Value} {st : List Value} {x : Int32}  : gc_W (gc_S d) cX11_mourner 11 0 R 20 L (.int x :: st) μ ↔ if x = 0 then gc_W (gc_S d) cX11_mourner 11 0 R 23 L st μ else gc_W (gc_S d) cX11_mourner 11 0 R 29 L st μ := us_ifne dX11_mourner_20 rfl
theorem u81_23 {d : Nat} {R : gR} {μ : gM} {l1 l2 l3 l4 : Value} {st : List Value} {x : Nat}  : gc_W (gc_S d) cX11_mourner 11 0 R 23 [.ref x, l1, l2, l3, l4] st μ ↔ gc_W (gc_S d) cX11_mourner 11 0 R 24 [.ref x, l1, l2, l3, l4] (.ref x :: st) μ := us_aload_n dX11_mourner_23 rfl
theorem u81_24 {d : Nat} {R : gR} {μ : gM} {L : List Value} {st : List Value}   : gc_W (gc_S d) cX11_mourner 11 0 R 24 L st μ ↔ gc_W (gc_S d) cX11_mourner 11 0 R 25 L (.int 1 :: st) μ := us_iconst dX11_mourner_24 ci_iconst_1
theorem u81_25 {d : Nat} {R : gR} {μ : gM} {L : List Value} {o : Nat} {a0 : Int32} (hk : gc_kd o = 11) : gc_W (gc_S d) cX11_mourner 11 0 R 25 L [.int a0, .ref o] μ ↔ gc_S d 75 [.ref o, .int a0] μ (fun v μ' => gc_W (gc_S d) cX11_mourner 11 0 R 28 L (v.toList ++ []) μ') := us_virt dX11_mourner_25 gn_11_88 gc_11_88_11 hk rfl rfl rfl rfl rfl
theorem u81_28 {d : Nat} {R : gR} {μ : gM} {L : List Value} {v : Int32}  : gc_W (gc_S d) cX11_mourner 11 0 R 28 L [.int v] μ ↔ R (some (.int v)) μ := us_iret dX11_mourner_28 rfl
theorem u81_29 {d : Nat} {R : gR} {μ : gM} {l1 l2 l3 l4 : Value} {st : List Value} {x : Nat}  : gc_W (gc_S d) cX11_mourner 11 0 R 29 [.ref x, l1, l2, l3, l4] st μ ↔ gc_W (gc_S d) cX11_mourner 11 0 R 30 [.ref x, l1, l2, l3, l4] (.ref x :: st) μ := us_aload_n dX11_mourner_29 rfl
theorem u81_30 {d : Nat} {R : gR} {μ : gM} {L : List Value} {st : List Value} {o : Nat} (hk : gc_kd o = 11) : gc_W (gc_S d) cX11_mourner 11 0 R 30 L (.ref o :: st) μ ↔ gc_W (gc_S d) cX11_mourner 11 0 R 33 L (gc_fv o 0 μ :: st) μ := us_getf dX11_mourner_30 gf_11_38 hk
theorem u81_33 {d : Nat} {R : gR} {μ : gM} {L : List Value} {st : List Value} {o : Nat} (hk : gc_kd o = 0) : gc_W (gc_S d) cX11_mourner 11 0 R 33 L (.ref o :: st) μ ↔ gc_W (gc_S d) cX11_mourner 11 0 R 36 L (gc_fv o 13 μ :: st) μ := us_getf dX11_mourner_33 gf_11_120 hk
theorem u81_36 {d : Nat} {R : gR} {μ : gM} {L : List Value} {st : List Value}   : gc_W (gc_S d) cX11_mourner 11 0 R 36 L st μ ↔ gc_W (gc_S d) cX11_mourner 11 0 R 38 L (.int 8 :: st) μ := us_bipush dX11_mourner_36 ci_bipush_8
theorem u81_38 {d : Nat} {R : gR} {μ : gM} {L : List Value} {st : List Value} {x y : Int32}  : gc_W (gc_S d) cX11_mourner 11 0 R 38 L (.int y :: .int x :: st) μ ↔ if x < y then gc_W (gc_S d) cX11_mourner 11 0 R 47 L st μ else gc_W (gc_S d) cX11_mourner 11 0 R 41 L st μ := us_iclt dX11_mourner_38 rfl
theorem u81_41 {d : Nat} {R : gR} {μ : gM} {l1 l2 l3 l4 : Value} {st : List Value} {x : Nat}  : gc_W (gc_S d) cX11_mourner 11 0 R 41 [.ref x, l1, l2, l3, l4] st μ ↔ gc_W (gc_S d) cX11_mourner 11 0 R 42 [.ref x, l1, l2, l3, l4] (.ref x :: st) μ := us_aload_n dX11_mourner_41 rfl
theorem u81_42 {d : Nat} {R : gR} {μ : gM} {L : List Value} {st : List Value}   : gc_W (gc_S d) cX11_mourner 11 0 R 42 L st μ ↔ gc_W (gc_S d) cX11_mourner 11 0 R 43 L (.int 4 :: st) μ := us_iconst dX11_mourner_42 ci_iconst_4
theorem u81_43 {d : Nat} {R : gR} {μ : gM} {L : List Value} {o : Nat} {a0 : Int32} (hk : gc_kd o = 11) : gc_W (gc_S d) cX11_mourner 11 0 R 43 L [.int a0, .ref o] μ ↔ gc_S d 75 [.ref o, .int a0] μ (fun v μ' => gc_W (gc_S d) cX11_mourner 11 0 R 46 L (v.toList ++ []) μ') := us_virt dX11_mourner_43 gn_11_88 gc_11_88_11 hk rfl rfl rfl rfl rfl
theorem u81_46 {d : Nat} {R : gR} {μ : gM} {L : List Value} {v : Int32}  : gc_W (gc_S d) cX11_mourner 11 0 R 46 L [.int v] μ ↔ R (some (.int v)) μ := us_iret dX11_mourner_46 rfl
theorem u81_47 {d : Nat} {R : gR} {μ : gM} {l1 l2 l3 l4 : Value} {st : List Value} {x : Nat}  : gc_W (gc_S d) cX11_mourner 11 0 R 47 [.ref x, l1, l2, l3, l4] st μ ↔ gc_W (gc_S d) cX11_mourner 11 0 R 48 [.ref x, l1, l2, l3, l4] (.ref x :: st) μ := us_aload_n dX11_mourner_47 rfl
theorem u81_48 {d : Nat} {R : gR} {μ : gM} {L : List Value} {st : List Value} {o : Nat} (hk : gc_kd o = 11) : gc_W (gc_S d) cX11_mourner 11 0 R 48 L (.ref o :: st) μ ↔ gc_W (gc_S d) cX11_mourner 11 0 R 51 L (gc_fv o 0 μ :: st) μ := us_getf dX11_mourner_48 gf_11_38 hk
theorem u81_51 {d : Nat} {R : gR} {μ : gM} {L : List Value} {st : List Value} {o : Nat} (hk : gc_kd o = 0) : gc_W (gc_S d) cX11_mourner 11 0 R 51 L (.ref o :: st) μ ↔ gc_W (gc_S d) cX11_mourner 11 0 R 54 L (gc_fv o 13 μ :: st) μ := us_getf dX11_mourner_51 gf_11_120 hk
theorem u81_54 {d : Nat} {R : gR} {μ : gM} {l0 l1 l2 l3 l4 : Value} {st : List Value} {x : Int32} (hs : gc_sk l4 = true) : gc_W (gc_S d) cX11_mourner 11 0 R 54 [l0, l1, l2, l3, l4] (.int x :: st) μ ↔ gc_W (gc_S d) cX11_mourner 11 0 R 56 [l0, l1, l2, l3, .int x] st μ := us_istore dX11_mourner_54 rfl hs
theorem u81_56 {d : Nat} {R : gR} {μ : gM} {l1 l2 l3 l4 : Value} {st : List Value} {x : Nat}  : gc_W (gc_S d) cX11_mourner 11 0 R 56 [.ref x, l1, l2, l3, l4] st μ ↔ gc_W (gc_S d) cX11_mourner 11 0 R 57 [.ref x, l1, l2, l3, l4] (.ref x :: st) μ := us_aload_n dX11_mourner_56 rfl
theorem u81_57 {d : Nat} {R : gR} {μ : gM} {L : List Value} {st : List Value} {o : Nat} (hk : gc_kd o = 11) : gc_W (gc_S d) cX11_mourner 11 0 R 57 L (.ref o :: st) μ ↔ gc_W (gc_S d) cX11_mourner 11 0 R 60 L (gc_fv o 0 μ :: st) μ := us_getf dX11_mourner_57 gf_11_38 hk
theorem u81_60 {d : Nat} {R : gR} {μ : gM} {L : List Value} {st : List Value} {x : Nat}  : gc_W (gc_S d) cX11_mourner 11 0 R 60 L (.ref x :: st) μ ↔ gc_W (gc_S d) cX11_mourner 11 0 R 61 L (.ref x :: .ref x :: st) μ := us_dup_r dX11_mourner_60
theorem u81_61 {d : Nat} {R : gR} {μ : gM} {L : List Value} {st : List Value} {o : Nat} (hk : gc_kd o = 0) : gc_W (gc_S d) cX11_mourner 11 0 R 61 L (.ref o :: st) μ ↔ gc_W (gc_S d) cX11_mourner 11 0 R 64 L (gc_fv o 13 μ :: st) μ := us_getf dX11_mourner_61 gf_11_120 hk
theorem u81_64 {d : Nat} {R : gR} {μ : gM} {L : List Value} {st : List Value}   : gc_W (gc_S d) cX11_mourner 11 0 R 64 L st μ ↔ gc_W (gc_S d) cX11_mourner 11 0 R 65 L (.int 1 :: st) μ := us_iconst dX11_mourner_64 ci_iconst_1
theorem u81_65 {d : Nat} {R : gR} {μ : gM} {L : List Value} {st : List Value} {x y : Int32}  : gc_W (gc_S d) cX11_mourner 11 0 R 65 L (.int y :: .int x :: st) μ ↔ gc_W (gc_S d) cX11_mourner 11 0 R 66 L (.int (x + y) :: st) μ := us_iadd dX11_mourner_65
theorem u81_66 {d : Nat} {R : gR} {μ : gM} {L : List Value} {st : List Value} {o : Nat} {x : Int32} (hk : gc_kd o = 0) (hj : gc_fk o 13 = 0) : gc_W (gc_S d) cX11_mourner 11 0 R 66 L (.int x :: .ref o :: st) μ ↔ gc_W (gc_S d) cX11_mourner 11 0 R 69 L st (gc_up μ o 13 x) := us_putf dX11_mourner_66 gf_11_120 hk hj rfl
theorem u81_69 {d : Nat} {R : gR} {μ : gM} {l1 l2 l3 l4 : Value} {st : List Value} {x : Nat}  : gc_W (gc_S d) cX11_mourner 11 0 R 69 [.ref x, l1, l2, l3, l4] st μ ↔ gc_W (gc_S d) cX11_mourner 11 0 R 70 [.ref x, l1, l2, l3, l4] (.ref x :: st) μ := us_aload_n dX11_mourner_69 rfl
theorem u81_70 {d : Nat} {R : gR} {μ : gM} {L : List Value} {st : List Value} {o : Nat} (hk : gc_kd o = 11) : gc_W (gc_S d) cX11_mourner 11 0 R 70 L (.ref o :: st) μ ↔ gc_W (gc_S d) cX11_mourner 11 0 R 73 L (gc_fv o 0 μ :: st) μ := us_getf dX11_mourner_70 gf_11_38 hk
theorem u81_73 {d : Nat} {R : gR} {μ : gM} {L : List Value} {st : List Value} {o : Nat} (hk : gc_kd o = 0) : gc_W (gc_S d) cX11_mourner 11 0 R 73 L (.ref o :: st) μ ↔ gc_W (gc_S d) cX11_mourner 11 0 R 76 L (gc_fv o 5 μ :: st) μ := us_getf dX11_mourner_73 gf_11_123 hk
theorem u81_76 {d : Nat} {R : gR} {μ : gM} {l0 l1 l2 l3 : Value} {st : List Value} {x : Int32}  : gc_W (gc_S d) cX11_mourner 11 0 R 76 [l0, l1, l2, l3, .int x] st μ ↔ gc_W (gc_S d) cX11_mourner 11 0 R 78 [l0, l1, l2, l3, .int x] (.int x :: st) μ := us_iload dX11_mourner_76 rfl
theorem u81_78 {d : Nat} {R : gR} {μ : gM} {l0 l2 l3 l4 : Value} {st : List Value} {x : Int32}  : gc_W (gc_S d) cX11_mourner 11 0 R 78 [l0, .int x, l2, l3, l4] st μ ↔ gc_W (gc_S d) cX11_mourner 11 0 R 79 [l0, .int x, l2, l3, l4] (.int x :: st) μ := us_iload_n dX11_mourner_78 rfl
theorem u81_79 {d : Nat} {R : gR} {μ : gM} {L : List Value} {st : List Value}   : gc_W (gc_S d) cX11_mourner 11 0 R 79 L st μ ↔ gc_W (gc_S d) cX11_mourner 11 0 R 81 L (.int 10 :: st) μ := us_bipush dX11_mourner_79 ci_bipush_10
theorem u81_81 {d : Nat} {R : gR} {μ : gM} {L : List Value} {st : List Value} {x y : Int32}  : gc_W (gc_S d) cX11_mourner 11 0 R 81 L (.int y :: .int x :: st) μ ↔ (¬ y = 0 ∧ gc_W (gc_S d) cX11_mourner 11 0 R 82 L (.int (x / y) :: st) μ) := us_idiv dX11_mourner_81
theorem u81_82 {d : Nat} {R : gR} {μ : gM} {L : List Value} {st : List Value} {o : Nat} {i x : Int32} (hk : gc_kd o = 20) : gc_W (gc_S d) cX11_mourner 11 0 R 82 L (.int x :: .int i :: .ref o :: st) μ ↔ (vp_in i (gc_al o) ∧ gc_W (gc_S d) cX11_mourner 11 0 R 83 L st (gc_up μ o i.toNatClampNeg x)) := us_iast dX11_mourner_82 hk
theorem u81_83 {d : Nat} {R : gR} {μ : gM} {l1 l2 l3 l4 : Value} {st : List Value} {x : Nat}  : gc_W (gc_S d) cX11_mourner 11 0 R 83 [.ref x, l1, l2, l3, l4] st μ ↔ gc_W (gc_S d) cX11_mourner 11 0 R 84 [.ref x, l1, l2, l3, l4] (.ref x :: st) μ := us_aload_n dX11_mourner_83 rfl
theorem u81_84 {d : Nat} {R : gR} {μ : gM} {L : List Value} {st : List Value} {o : Nat} (hk : gc_kd o = 11) : gc_W (gc_S d) cX11_mourner 11 0 R 84 L (.ref o :: st) μ ↔ gc_W (gc_S d) cX11_mourner 11 0 R 87 L (gc_fv o 0 μ :: st) μ := us_getf dX11_mourner_84 gf_11_38 hk
theorem u81_87 {d : Nat} {R : gR} {μ : gM} {L : List Value} {st : List Value} {o : Nat} (hk : gc_kd o = 0) : gc_W (gc_S d) cX11_mourner 11 0 R 87 L (.ref o :: st) μ ↔ gc_W (gc_S d) cX11_mourner 11 0 R 90 L (gc_fv o 6 μ :: st) μ := us_getf dX11_mourner_87 gf_11_126 hk
theorem u81_90 {d : Nat} {R : gR} {μ : gM} {l0 l1 l2 l3 : Value} {st : List Value} {x : Int32}  : gc_W (gc_S d) cX11_mourner 11 0 R 90 [l0, l1, l2, l3, .int x] st μ ↔ gc_W (gc_S d) cX11_mourner 11 0 R 92 [l0, l1, l2, l3, .int x] (.int x :: st) μ := us_iload dX11_mourner_90 rfl
theorem u81_92 {d : Nat} {R : gR} {μ : gM} {l0 l2 l3 l4 : Value} {st : List Value} {x : Int32}  : gc_W (gc_S d) cX11_mourner 11 0 R 92 [l0, .int x, l2, l3, l4] st μ ↔ gc_W (gc_S d) cX11_mourner 11 0 R 93 [l0, .int x, l2, l3, l4] (.int x :: st) μ := us_iload_n dX11_mourner_92 rfl
theorem u81_93 {d : Nat} {R : gR} {μ : gM} {L : List Value} {st : List Value}   : gc_W (gc_S d) cX11_mourner 11 0 R 93 L st μ ↔ gc_W (gc_S d) cX11_mourner 11 0 R 95 L (.int 10 :: st) μ := us_bipush dX11_mourner_93 ci_bipush_10
theorem u81_95 {d : Nat} {R : gR} {μ : gM} {L : List Value} {st : List Value} {x y : Int32}  : gc_W (gc_S d) cX11_mourner 11 0 R 95 L (.int y :: .int x :: st) μ ↔ (¬ y = 0 ∧ gc_W (gc_S d) cX11_mourner 11 0 R 96 L (.int (x - x / y * y) :: st) μ) := us_irem dX11_mourner_95
theorem u81_96 {d : Nat} {R : gR} {μ : gM} {L : List Value} {st : List Value} {o : Nat} {i x : Int32} (hk : gc_kd o = 20) : gc_W (gc_S d) cX11_mourner 11 0 R 96 L (.int x :: .int i :: .ref o :: st) μ ↔ (vp_in i (gc_al o) ∧ gc_W (gc_S d) cX11_mourner 11 0 R 97 L st (gc_up μ o i.toNatClampNeg x)) := us_iast dX11_mourner_96 hk
theorem u81_97 {d : Nat} {R : gR} {μ : gM} {l1 l2 l3 l4 : Value} {st : List Value} {x : Nat}  : gc_W (gc_S d) cX11_mourner 11 0 R 97 [.ref x, l1, l2, l3, l4] st μ ↔ gc_W (gc_S d) cX11_mourner 11 0 R 98 [.ref x, l1, l2, l3, l4] (.ref x :: st) μ := us_aload_n dX11_mourner_97 rfl
theorem u81_98 {d : Nat} {R : gR} {μ : gM} {L : List Value} {st : List Value} {o : Nat} (hk : gc_kd o = 11) : gc_W (gc_S d) cX11_mourner 11 0 R 98 L (.ref o :: st) μ ↔ gc_W (gc_S d) cX11_mourner 11 0 R 101 L (gc_fv o 0 μ :: st) μ := us_getf dX11_mourner_98 gf_11_38 hk
theorem u81_101 {d : Nat} {R : gR} {μ : gM} {L : List Value} {st : List Value} {o : Nat} (hk : gc_kd o = 0) : gc_W (gc_S d) cX11_mourner 11 0 R 101 L (.ref o :: st) μ ↔ gc_W (gc_S d) cX11_mourner 11 0 R 104 L (gc_fv o 7 μ :: st) μ := us_getf dX11_mourner_101 gf_11_129 hk
theorem u81_104 {d : Nat} {R : gR} {μ : gM} {l0 l1 l2 l3 : Value} {st : List Value} {x : Int32}  : gc_W (gc_S d) cX11_mourner 11 0 R 104 [l0, l1, l2, l3, .int x] st μ ↔ gc_W (gc_S d) cX11_mourner 11 0 R 106 [l0, l1, l2, l3, .int x] (.int x :: st) μ := us_iload dX11_mourner_104 rfl
theorem u81_106 {d : Nat} {R : gR} {μ : gM} {l0 l1 l3 l4 : Value} {st : List Value} {x : Int32}  : gc_W (gc_S d) cX11_mourner 11 0 R 106 [l0, l1, .int x, l3, l4] st μ ↔ gc_W (gc_S d) cX11_mourner 11 0 R 107 [l0, l1, .int x, l3, l4] (.int x :: st) μ := us_iload_n dX11_mourner_106 rfl
theorem u81_107 {d : Nat} {R : gR} {μ : gM} {L : List Value} {st : List Value} {o : Nat} {i x : Int32} (hk : gc_kd o = 20) : gc_W (gc_S d) cX11_mourner 11 0 R 107 L (.int x :: .int i :: .ref o :: st) μ ↔ (vp_in i (gc_al o) ∧ gc_W (gc_S d) cX11_mourner 11 0 R 108 L st (gc_up μ o i.toNatClampNeg x)) := us_iast dX11_mourner_107 hk
theorem u81_108 {d : Nat} {R : gR} {μ : gM} {l1 l2 l3 l4 : Value} {st : List Value} {x : Nat}  : gc_W (gc_S d) cX11_mourner 11 0 R 108 [.ref x, l1, l2, l3, l4] st μ ↔ gc_W (gc_S d) cX11_mourner 11 0 R 109 [.ref x, l1, l2, l3, l4] (.ref x :: st) μ := us_aload_n dX11_mourner_108 rfl
theorem u81_109 {d : Nat} {R : gR} {μ : gM} {L : List Value} {st : List Value} {o : Nat} (hk : gc_kd o = 11) : gc_W (gc_S d) cX11_mourner 11 0 R 109 L (.ref o :: st) μ ↔ gc_W (gc_S d) cX11_mourner 11 0 R 112 L (gc_fv o 0 μ :: st) μ := us_getf dX11_mourner_109 gf_11_38 hk
theorem u81_112 {d : Nat} {R : gR} {μ : gM} {L : List Value} {st : List Value} {o : Nat} (hk : gc_kd o = 0) : gc_W (gc_S d) cX11_mourner 11 0 R 112 L (.ref o :: st) μ ↔ gc_W (gc_S d) cX11_mourner 11 0 R 115 L (gc_fv o 8 μ :: st) μ := us_getf dX11_mourner_112 gf_11_132 hk
theorem u81_115 {d : Nat} {R : gR} {μ : gM} {l0 l1 l2 l3 : Value} {st : List Value} {x : Int32}  : gc_W (gc_S d) cX11_mourner 11 0 R 115 [l0, l1, l2, l3, .int x] st μ ↔ gc_W (gc_S d) cX11_mourner 11 0 R 117 [l0, l1, l2, l3, .int x] (.int x :: st) μ := us_iload dX11_mourner_115 rfl
theorem u81_117 {d : Nat} {R : gR} {μ : gM} {l0 l1 l2 l4 : Value} {st : List Value} {x : Int32}  : gc_W (gc_S d) cX11_mourner 11 0 R 117 [l0, l1, l2, .int x, l4] st μ ↔ gc_W (gc_S d) cX11_mourner 11 0 R 118 [l0, l1, l2, .int x, l4] (.int x :: st) μ := us_iload_n dX11_mourner_117 rfl
theorem u81_118 {d : Nat} {R : gR} {μ : gM} {L : List Value} {st : List Value} {o : Nat} {i x : Int32} (hk : gc_kd o = 20) : gc_W (gc_S d) cX11_mourner 11 0 R 118 L (.int x :: .int i :: .ref o :: st) μ ↔ (vp_in i (gc_al o) ∧ gc_W (gc_S d) cX11_mourner 11 0 R 119 L st (gc_up μ o i.toNatClampNeg x)) := us_iast dX11_mourner_118 hk
theorem u81_119 {d : Nat} {R : gR} {μ : gM} {l0 l1 l2 l3 : Value} {st : List Value} {x : Int32}  : gc_W (gc_S d) cX11_mourner 11 0 R 119 [l0, l1, l2, l3, .int x] st μ ↔ gc_W (gc_S d) cX11_mourner 11 0 R 121 [l0, l1, l2, l3, .int x] (.int x :: st) μ := us_iload dX11_mourner_119 rfl
theorem u81_121 {d : Nat} {R : gR} {μ : gM} {L : List Value} {v : Int32}  : gc_W (gc_S d) cX11_mourner 11 0 R 121 L [.int v] μ ↔ R (some (.int v)) μ := us_iret dX11_mourner_121 rfl
theorem s81 {d : Nat} {R : gR} {μ : gM} {o : Nat} {a0 a1 a2 : Int32} : gc_S (d + 1) 81 [.ref o, .int a0, .int a1, .int a2] μ R ↔ gc_W (gc_S d) cX11_mourner 11 0 R 0 [.ref o, .int a0, .int a1, .int a2, .retAddr 0] [] μ := us_call (gm_81) rfl rfl
theorem dX11_isMourner_0 : decode cX11_isMourner 0 = .ok (.iload_n 1, 1) := by decide +kernel
theorem dX11_isMourner_1 : decode cX11_isMourner 1 = .ok (.ifCond .lt 18, 3) := by decide +kernel
theorem dX11_isMourner_4 : decode cX11_isMourner 4 = .ok (.iload_n 1, 1) := by decide +kernel
theorem dX11_isMourner_5 : decode cX11_isMourner 5 = .ok (.aload_n 0, 1) := by decide +kernel
theorem dX11_isMourner_6 : decode cX11_isMourner 6 = .ok (.getfield 38, 3) := by decide +kernel
theorem dX11_isMourner_9 : decode cX11_isMourner 9 = .ok (.getfield 120, 3) := by decide +kernel
theorem dX11_isMourner_12 : decode cX11_isMourner 12 = .ok (.if_icmp .ge 7, 3) := by decide +kernel
theorem dX11_isMourner_15 : decode cX11_isMourner 15 = .ok (.iconst 1, 1) := by decide +kernel
theorem dX11_isMourner_16 : decode cX11_isMourner 16 = .ok (.goto 4, 3) := by decide +kernel
theorem dX11_isMourner_19 : decode cX11_isMourner 19 = .ok (.iconst 0, 1) := by decide +kernel
theorem dX11_isMourner_20 : decode cX11_isMourner 20 = .ok (.ireturn, 1) := by decide +kernel
theorem u82_0 {d : Nat} {R : gR} {μ : gM} {l0 : Value} {st : List Value} {x : Int32}  : gc_W (gc_S d) cX11_isMourner 11 1 R 0 [l0, .int x] st μ ↔ gc_W (gc_S d) cX11_isMourner 11 1 R 1 [l0, .int x] (.int x :: st) μ := us_iload_n dX11_isMourner_0 rfl
theorem u82_1 {d : Nat} {R : gR} {μ : gM} {L : List Value} {st : List Value} {x : Int32}  : gc_W (gc_S d) cX11_isMourner 11 1 R 1 L (.int x :: st) μ ↔ if x < 0 then gc_W (gc_S d) cX11_isMourner 11 1 R 19 L st μ else gc_W (gc_S d) cX11_isMourner 11 1 R 4 L st μ := us_iflt dX11_isMourner_1 rfl
theorem u82_4 {d : Nat} {R : gR} {μ : gM} {l0 : Value} {st : List Value} {x : Int32}  : gc_W (gc_S d) cX11_isMourner 11 1 R 4 [l0, .int x] st μ ↔ gc_W (gc_S d) cX11_isMourner 11 1 R 5 [l0, .int x] (.int x :: st) μ := us_iload_n dX11_isMourner_4 rfl
theorem u82_5 {d : Nat} {R : gR} {μ : gM} {l1 : Value} {st : List Value} {x : Nat}  : gc_W (gc_S d) cX11_isMourner 11 1 R 5 [.ref x, l1] st μ ↔ gc_W (gc_S d) cX11_isMourner 11 1 R 6 [.ref x, l1] (.ref x :: st) μ := us_aload_n dX11_isMourner_5 rfl
theorem u82_6 {d : Nat} {R : gR} {μ : gM} {L : List Value} {st : List Value} {o : Nat} (hk : gc_kd o = 11) : gc_W (gc_S d) cX11_isMourner 11 1 R 6 L (.ref o :: st) μ ↔ gc_W (gc_S d) cX11_isMourner 11 1 R 9 L (gc_fv o 0 μ :: st) μ := us_getf dX11_isMourner_6 gf_11_38 hk
theorem u82_9 {d : Nat} {R : gR} {μ : gM} {L : List Value} {st : List Value} {o : Nat} (hk : gc_kd o = 0) : gc_W (gc_S d) cX11_isMourner 11 1 R 9 L (.ref o :: st) μ ↔ gc_W (gc_S d) cX11_isMourner 11 1 R 12 L (gc_fv o 13 μ :: st) μ := us_getf dX11_isMourner_9 gf_11_120 hk
theorem u82_12 {d : Nat} {R : gR} {μ : gM} {L : List Value} {st : List Value} {x y : Int32}  : gc_W (gc_S d) cX11_isMourner 11 1 R 12 L (.int y :: .int x :: st) μ ↔ if y ≤ x then gc_W (gc_S d) cX11_isMourner 11 1 R 19 L st μ else gc_W (gc_S d) cX11_isMourner 11 1 R 15 L st μ := us_icge dX11_isMourner_12 rfl
theorem u82_15 {d : Nat} {R : gR} {μ : gM} {L : List Value} {st : List Value}   : gc_W (gc_S d) cX11_isMourner 11 1 R 15 L st μ ↔ gc_W (gc_S d) cX11_isMourner 11 1 R 16 L (.int 1 :: st) μ := us_iconst dX11_isMourner_15 ci_iconst_1
theorem u82_16 {d : Nat} {R : gR} {μ : gM} {L : List Value} {st : List Value}  : gc_W (gc_S d) cX11_isMourner 11 1 R 16 L st μ ↔ gc_W (gc_S d) cX11_isMourner 11 1 R 20 L st μ := us_goto dX11_isMourner_16 rfl
theorem u82_19 {d : Nat} {R : gR} {μ : gM} {L : List Value} {st : List Value}   : gc_W (gc_S d) cX11_isMourner 11 1 R 19 L st μ ↔ gc_W (gc_S d) cX11_isMourner 11 1 R 20 L (.int 0 :: st) μ := us_iconst dX11_isMourner_19 ci_iconst_0
theorem u82_20 {d : Nat} {R : gR} {μ : gM} {L : List Value} {v : Int32}  : gc_W (gc_S d) cX11_isMourner 11 1 R 20 L [.int v] μ ↔ ((v = 0 ∨ v = 1) ∧ R (some (.int v)) μ) := us_zret dX11_isMourner_20 rfl
theorem s82 {d : Nat} {R : gR} {μ : gM} {o : Nat} {a0 : Int32} : gc_S (d + 1) 82 [.ref o, .int a0] μ R ↔ gc_W (gc_S d) cX11_isMourner 11 1 R 0 [.ref o, .int a0] [] μ := us_call (gm_82) rfl rfl
theorem dX11_ofMourner_0 : decode cX11_ofMourner 0 = .ok (.aload_n 0, 1) := by decide +kernel
theorem dX11_ofMourner_1 : decode cX11_ofMourner 1 = .ok (.iload_n 1, 1) := by decide +kernel
theorem dX11_ofMourner_2 : decode cX11_ofMourner 2 = .ok (.invokevirtual 135, 3) := by decide +kernel
theorem dX11_ofMourner_5 : decode cX11_ofMourner 5 = .ok (.ifCond .eq 12, 3) := by decide +kernel
theorem dX11_ofMourner_8 : decode cX11_ofMourner 8 = .ok (.bipush 6, 2) := by decide +kernel
theorem dX11_ofMourner_10 : decode cX11_ofMourner 10 = .ok (.iload_n 2, 1) := by decide +kernel
theorem dX11_ofMourner_11 : decode cX11_ofMourner 11 = .ok (.invokestatic 84, 3) := by decide +kernel
theorem dX11_ofMourner_14 : decode cX11_ofMourner 14 = .ok (.ifCond .ne 9, 3) := by decide +kernel
theorem dX11_ofMourner_17 : decode cX11_ofMourner 17 = .ok (.aload_n 0, 1) := by decide +kernel
theorem dX11_ofMourner_18 : decode cX11_ofMourner 18 = .ok (.iconst 1, 1) := by decide +kernel
theorem dX11_ofMourner_19 : decode cX11_ofMourner 19 = .ok (.invokevirtual 88, 3) := by decide +kernel
theorem dX11_ofMourner_22 : decode cX11_ofMourner 22 = .ok (.ireturn, 1) := by decide +kernel
theorem dX11_ofMourner_23 : decode cX11_ofMourner 23 = .ok (.aload_n 0, 1) := by decide +kernel
theorem dX11_ofMourner_24 : decode cX11_ofMourner 24 = .ok (.getfield 38, 3) := by decide +kernel
theorem dX11_ofMourner_27 : decode cX11_ofMourner 27 = .ok (.getfield 126, 3) := by decide +kernel
theorem dX11_ofMourner_30 : decode cX11_ofMourner 30 = .ok (.iload_n 1, 1) := by decide +kernel
theorem dX11_ofMourner_31 : decode cX11_ofMourner 31 = .ok (.iaload, 1) := by decide +kernel
theorem dX11_ofMourner_32 : decode cX11_ofMourner 32 = .ok (.istore_n 3, 1) := by decide +kernel
theorem dX11_ofMourner_33 : decode cX11_ofMourner 33 = .ok (.iload_n 2, 1) := by decide +kernel
theorem dX11_ofMourner_34 : decode cX11_ofMourner 34 = .ok (.tableswitch 100 0 5 #[38, 48, 50, 60, 70, 79], 38) := by decide +kernel
theorem dX11_ofMourner_72 : decode cX11_ofMourner 72 = .ok (.aload_n 0, 1) := by decide +kernel
theorem dX11_ofMourner_73 : decode cX11_ofMourner 73 = .ok (.getfield 38, 3) := by decide +kernel
theorem dX11_ofMourner_76 : decode cX11_ofMourner 76 = .ok (.getfield 123, 3) := by decide +kernel
theorem dX11_ofMourner_79 : decode cX11_ofMourner 79 = .ok (.iload_n 1, 1) := by decide +kernel
theorem dX11_ofMourner_80 : decode cX11_ofMourner 80 = .ok (.iaload, 1) := by decide +kernel
theorem dX11_ofMourner_81 : decode cX11_ofMourner 81 = .ok (.ireturn, 1) := by decide +kernel
theorem dX11_ofMourner_82 : decode cX11_ofMourner 82 = .ok (.iload_n 3, 1) := by decide +kernel
theorem dX11_ofMourner_83 : decode cX11_ofMourner 83 = .ok (.ireturn, 1) := by decide +kernel
theorem dX11_ofMourner_84 : decode cX11_ofMourner 84 = .ok (.aload_n 0, 1) := by decide +kernel
theorem dX11_ofMourner_85 : decode cX11_ofMourner 85 = .ok (.getfield 38, 3) := by decide +kernel
theorem dX11_ofMourner_88 : decode cX11_ofMourner 88 = .ok (.getfield 129, 3) := by decide +kernel
theorem dX11_ofMourner_91 : decode cX11_ofMourner 91 = .ok (.iload_n 1, 1) := by decide +kernel
theorem dX11_ofMourner_92 : decode cX11_ofMourner 92 = .ok (.iaload, 1) := by decide +kernel
theorem dX11_ofMourner_93 : decode cX11_ofMourner 93 = .ok (.ireturn, 1) := by decide +kernel
theorem dX11_ofMourner_94 : decode cX11_ofMourner 94 = .ok (.aload_n 0, 1) := by decide +kernel
theorem dX11_ofMourner_95 : decode cX11_ofMourner 95 = .ok (.getfield 38, 3) := by decide +kernel
theorem dX11_ofMourner_98 : decode cX11_ofMourner 98 = .ok (.getfield 132, 3) := by decide +kernel
theorem dX11_ofMourner_101 : decode cX11_ofMourner 101 = .ok (.iload_n 1, 1) := by decide +kernel
theorem dX11_ofMourner_102 : decode cX11_ofMourner 102 = .ok (.iaload, 1) := by decide +kernel
theorem dX11_ofMourner_103 : decode cX11_ofMourner 103 = .ok (.ireturn, 1) := by decide +kernel
theorem dX11_ofMourner_104 : decode cX11_ofMourner 104 = .ok (.aload_n 0, 1) := by decide +kernel
theorem dX11_ofMourner_105 : decode cX11_ofMourner 105 = .ok (.getfield 38, 3) := by decide +kernel
theorem dX11_ofMourner_108 : decode cX11_ofMourner 108 = .ok (.iload_n 1, 1) := by decide +kernel
theorem dX11_ofMourner_109 : decode cX11_ofMourner 109 = .ok (.invokevirtual 138, 3) := by decide +kernel
theorem dX11_ofMourner_112 : decode cX11_ofMourner 112 = .ok (.ireturn, 1) := by decide +kernel
theorem dX11_ofMourner_113 : decode cX11_ofMourner 113 = .ok (.aload_n 0, 1) := by decide +kernel
theorem dX11_ofMourner_114 : decode cX11_ofMourner 114 = .ok (.getfield 38, 3) := by decide +kernel
theorem dX11_ofMourner_117 : decode cX11_ofMourner 117 = .ok (.iload_n 1, 1) := by decide +kernel
theorem dX11_ofMourner_118 : decode cX11_ofMourner 118 = .ok (.invokevirtual 141, 3) := by decide +kernel
theorem dX11_ofMourner_121 : decode cX11_ofMourner 121 = .ok (.iload_n 3, 1) := by decide +kernel
theorem dX11_ofMourner_122 : decode cX11_ofMourner 122 = .ok (.aload_n 0, 1) := by decide +kernel
theorem dX11_ofMourner_123 : decode cX11_ofMourner 123 = .ok (.getfield 38, 3) := by decide +kernel
theorem dX11_ofMourner_126 : decode cX11_ofMourner 126 = .ok (.iload_n 1, 1) := by decide +kernel
theorem dX11_ofMourner_127 : decode cX11_ofMourner 127 = .ok (.invokevirtual 138, 3) := by decide +kernel
theorem dX11_ofMourner_130 : decode cX11_ofMourner 130 = .ok (.invokevirtual 145, 3) := by decide +kernel
theorem dX11_ofMourner_133 : decode cX11_ofMourner 133 = .ok (.ireturn, 1) := by decide +kernel
theorem dX11_ofMourner_134 : decode cX11_ofMourner 134 = .ok (.aload_n 0, 1) := by decide +kernel
theorem dX11_ofMourner_135 : decode cX11_ofMourner 135 = .ok (.getfield 38, 3) := by decide +kernel
theorem dX11_ofMourner_138 : decode cX11_ofMourner 138 = .ok (.iload_n 1, 1) := by decide +kernel
theorem dX11_ofMourner_139 : decode cX11_ofMourner 139 = .ok (.invokevirtual 141, 3) := by decide +kernel
theorem dX11_ofMourner_142 : decode cX11_ofMourner 142 = .ok (.iload_n 3, 1) := by decide +kernel
theorem dX11_ofMourner_143 : decode cX11_ofMourner 143 = .ok (.aload_n 0, 1) := by decide +kernel
theorem dX11_ofMourner_144 : decode cX11_ofMourner 144 = .ok (.getfield 38, 3) := by decide +kernel
theorem dX11_ofMourner_147 : decode cX11_ofMourner 147 = .ok (.getfield 149, 3) := by decide +kernel
theorem dX11_ofMourner_150 : decode cX11_ofMourner 150 = .ok (.invokevirtual 152, 3) := by decide +kernel
theorem dX11_ofMourner_153 : decode cX11_ofMourner 153 = .ok (.ireturn, 1) := by decide +kernel
theorem u83_0 {d : Nat} {R : gR} {μ : gM} {l1 l2 l3 : Value} {st : List Value} {x : Nat}  : gc_W (gc_S d) cX11_ofMourner 11 0 R 0 [.ref x, l1, l2, l3] st μ ↔ gc_W (gc_S d) cX11_ofMourner 11 0 R 1 [.ref x, l1, l2, l3] (.ref x :: st) μ := us_aload_n dX11_ofMourner_0 rfl
theorem u83_1 {d : Nat} {R : gR} {μ : gM} {l0 l2 l3 : Value} {st : List Value} {x : Int32}  : gc_W (gc_S d) cX11_ofMourner 11 0 R 1 [l0, .int x, l2, l3] st μ ↔ gc_W (gc_S d) cX11_ofMourner 11 0 R 2 [l0, .int x, l2, l3] (.int x :: st) μ := us_iload_n dX11_ofMourner_1 rfl
theorem u83_2 {d : Nat} {R : gR} {μ : gM} {L : List Value} {o : Nat} {a0 : Int32} (hk : gc_kd o = 11) : gc_W (gc_S d) cX11_ofMourner 11 0 R 2 L [.int a0, .ref o] μ ↔ gc_S d 82 [.ref o, .int a0] μ (fun v μ' => gc_W (gc_S d) cX11_ofMourner 11 0 R 5 L (v.toList ++ []) μ') := us_virt dX11_ofMourner_2 gn_11_135 gc_11_135_11 hk rfl rfl rfl rfl rfl
theorem u83_5 {d : Nat} {R : gR} {μ : gM} {L : List Value} {st : List Value} {x : Int32}  : gc_W (gc_S d) cX11_ofMourner 11 0 R 5 L (.int x :: st) μ ↔ if x = 0 then gc_W (gc_S d) cX11_ofMourner 11 0 R 17 L st μ else gc_W (gc_S d) cX11_ofMourner 11 0 R 8 L st μ := us_ifeq dX11_ofMourner_5 rfl
theorem u83_8 {d : Nat} {R : gR} {μ : gM} {L : List Value} {st : List Value}   : gc_W (gc_S d) cX11_ofMourner 11 0 R 8 L st μ ↔ gc_W (gc_S d) cX11_ofMourner 11 0 R 10 L (.int 6 :: st) μ := us_bipush dX11_ofMourner_8 ci_bipush_6
theorem u83_10 {d : Nat} {R : gR} {μ : gM} {l0 l1 l3 : Value} {st : List Value} {x : Int32}  : gc_W (gc_S d) cX11_ofMourner 11 0 R 10 [l0, l1, .int x, l3] st μ ↔ gc_W (gc_S d) cX11_ofMourner 11 0 R 11 [l0, l1, .int x, l3] (.int x :: st) μ := us_iload_n dX11_ofMourner_10 rfl
theorem u83_11 {d : Nat} {R : gR} {μ : gM} {L : List Value}  {a0 a1 : Int32}  : gc_W (gc_S d) cX11_ofMourner 11 0 R 11 L [.int a1, .int a0] μ ↔ gc_S d 73 [.int a0, .int a1] μ (fun v μ' => gc_W (gc_S d) cX11_ofMourner 11 0 R 14 L (v.toList ++ []) μ') := us_stat dX11_ofMourner_11 gs_11_84 gne_11_84 gn_11_84 gc_11_84_97 rfl rfl rfl rfl
theorem u83_14 {d : Nat} {R : gR} {μ : gM} {L : List Value} {st : List Value} {x : Int32}  : gc_W (gc_S d) cX11_ofMourner 11 0 R 14 L (.int x :: st) μ ↔ if x = 0 then gc_W (gc_S d) cX11_ofMourner 11 0 R 17 L st μ else gc_W (gc_S d) cX11_ofMourner 11 0 R 23 L st μ := us_ifne dX11_ofMourner_14 rfl
theorem u83_17 {d : Nat} {R : gR} {μ : gM} {l1 l2 l3 : Value} {st : List Value} {x : Nat}  : gc_W (gc_S d) cX11_ofMourner 11 0 R 17 [.ref x, l1, l2, l3] st μ ↔ gc_W (gc_S d) cX11_ofMourner 11 0 R 18 [.ref x, l1, l2, l3] (.ref x :: st) μ := us_aload_n dX11_ofMourner_17 rfl
theorem u83_18 {d : Nat} {R : gR} {μ : gM} {L : List Value} {st : List Value}   : gc_W (gc_S d) cX11_ofMourner 11 0 R 18 L st μ ↔ gc_W (gc_S d) cX11_ofMourner 11 0 R 19 L (.int 1 :: st) μ := us_iconst dX11_ofMourner_18 ci_iconst_1
theorem u83_19 {d : Nat} {R : gR} {μ : gM} {L : List Value} {o : Nat} {a0 : Int32} (hk : gc_kd o = 11) : gc_W (gc_S d) cX11_ofMourner 11 0 R 19 L [.int a0, .ref o] μ ↔ gc_S d 75 [.ref o, .int a0] μ (fun v μ' => gc_W (gc_S d) cX11_ofMourner 11 0 R 22 L (v.toList ++ []) μ') := us_virt dX11_ofMourner_19 gn_11_88 gc_11_88_11 hk rfl rfl rfl rfl rfl
theorem u83_22 {d : Nat} {R : gR} {μ : gM} {L : List Value} {v : Int32}  : gc_W (gc_S d) cX11_ofMourner 11 0 R 22 L [.int v] μ ↔ R (some (.int v)) μ := us_iret dX11_ofMourner_22 rfl
theorem u83_23 {d : Nat} {R : gR} {μ : gM} {l1 l2 l3 : Value} {st : List Value} {x : Nat}  : gc_W (gc_S d) cX11_ofMourner 11 0 R 23 [.ref x, l1, l2, l3] st μ ↔ gc_W (gc_S d) cX11_ofMourner 11 0 R 24 [.ref x, l1, l2, l3] (.ref x :: st) μ := us_aload_n dX11_ofMourner_23 rfl
theorem u83_24 {d : Nat} {R : gR} {μ : gM} {L : List Value} {st : List Value} {o : Nat} (hk : gc_kd o = 11) : gc_W (gc_S d) cX11_ofMourner 11 0 R 24 L (.ref o :: st) μ ↔ gc_W (gc_S d) cX11_ofMourner 11 0 R 27 L (gc_fv o 0 μ :: st) μ := us_getf dX11_ofMourner_24 gf_11_38 hk
theorem u83_27 {d : Nat} {R : gR} {μ : gM} {L : List Value} {st : List Value} {o : Nat} (hk : gc_kd o = 0) : gc_W (gc_S d) cX11_ofMourner 11 0 R 27 L (.ref o :: st) μ ↔ gc_W (gc_S d) cX11_ofMourner 11 0 R 30 L (gc_fv o 6 μ :: st) μ := us_getf dX11_ofMourner_27 gf_11_126 hk
theorem u83_30 {d : Nat} {R : gR} {μ : gM} {l0 l2 l3 : Value} {st : List Value} {x : Int32}  : gc_W (gc_S d) cX11_ofMourner 11 0 R 30 [l0, .int x, l2, l3] st μ ↔ gc_W (gc_S d) cX11_ofMourner 11 0 R 31 [l0, .int x, l2, l3] (.int x :: st) μ := us_iload_n dX11_ofMourner_30 rfl
theorem u83_31 {d : Nat} {R : gR} {μ : gM} {L : List Value} {st : List Value} {o : Nat} {i : Int32} (hk : gc_kd o = 20) : gc_W (gc_S d) cX11_ofMourner 11 0 R 31 L (.int i :: .ref o :: st) μ ↔ (vp_in i (gc_al o) ∧ gc_W (gc_S d) cX11_ofMourner 11 0 R 32 L (.int (μ o i.toNatClampNeg) :: st) μ) := us_iald dX11_ofMourner_31 hk
theorem u83_32 {d : Nat} {R : gR} {μ : gM} {l0 l1 l2 l3 : Value} {st : List Value} {x : Int32} (hs : gc_sk l3 = true) : gc_W (gc_S d) cX11_ofMourner 11 0 R 32 [l0, l1, l2, l3] (.int x :: st) μ ↔ gc_W (gc_S d) cX11_ofMourner 11 0 R 33 [l0, l1, l2, .int x] st μ := us_istore_n dX11_ofMourner_32 rfl hs
theorem u83_33 {d : Nat} {R : gR} {μ : gM} {l0 l1 l3 : Value} {st : List Value} {x : Int32}  : gc_W (gc_S d) cX11_ofMourner 11 0 R 33 [l0, l1, .int x, l3] st μ ↔ gc_W (gc_S d) cX11_ofMourner 11 0 R 34 [l0, l1, .int x, l3] (.int x :: st) μ := us_iload_n dX11_ofMourner_33 rfl
theorem u83_34 {d : Nat} {R : gR} {μ : gM} {L : List Value} {st : List Value} {x : Int32}  : gc_W (gc_S d) cX11_ofMourner 11 0 R 34 L (.int x :: st) μ ↔ if x = 0 then gc_W (gc_S d) cX11_ofMourner 11 0 R 72 L st μ else (if x = 1 then gc_W (gc_S d) cX11_ofMourner 11 0 R 82 L st μ else (if x = 2 then gc_W (gc_S d) cX11_ofMourner 11 0 R 84 L st μ else (if x = 3 then gc_W (gc_S d) cX11_ofMourner 11 0 R 94 L st μ else (if x = 4 then gc_W (gc_S d) cX11_ofMourner 11 0 R 104 L st μ else (if x = 5 then gc_W (gc_S d) cX11_ofMourner 11 0 R 113 L st μ else (gc_W (gc_S d) cX11_ofMourner 11 0 R 134 L st μ)))))) := us_tsw [(0, 72), (1, 82), (2, 84), (3, 94), (4, 104), (5, 113)] dX11_ofMourner_34 rfl (by decide) (by decide +kernel) (dt := 134) rfl
theorem u83_72 {d : Nat} {R : gR} {μ : gM} {l1 l2 l3 : Value} {st : List Value} {x : Nat}  : gc_W (gc_S d) cX11_ofMourner 11 0 R 72 [.ref x, l1, l2, l3] st μ ↔ gc_W (gc_S d) cX11_ofMourner 11 0 R 73 [.ref x, l1, l2, l3] (.ref x :: st) μ := us_aload_n dX11_ofMourner_72 rfl
theorem u83_73 {d : Nat} {R : gR} {μ : gM} {L : List Value} {st : List Value} {o : Nat} (hk : gc_kd o = 11) : gc_W (gc_S d) cX11_ofMourner 11 0 R 73 L (.ref o :: st) μ ↔ gc_W (gc_S d) cX11_ofMourner 11 0 R 76 L (gc_fv o 0 μ :: st) μ := us_getf dX11_ofMourner_73 gf_11_38 hk
theorem u83_76 {d : Nat} {R : gR} {μ : gM} {L : List Value} {st : List Value} {o : Nat} (hk : gc_kd o = 0) : gc_W (gc_S d) cX11_ofMourner 11 0 R 76 L (.ref o :: st) μ ↔ gc_W (gc_S d) cX11_ofMourner 11 0 R 79 L (gc_fv o 5 μ :: st) μ := us_getf dX11_ofMourner_76 gf_11_123 hk
theorem u83_79 {d : Nat} {R : gR} {μ : gM} {l0 l2 l3 : Value} {st : List Value} {x : Int32}  : gc_W (gc_S d) cX11_ofMourner 11 0 R 79 [l0, .int x, l2, l3] st μ ↔ gc_W (gc_S d) cX11_ofMourner 11 0 R 80 [l0, .int x, l2, l3] (.int x :: st) μ := us_iload_n dX11_ofMourner_79 rfl
theorem u83_80 {d : Nat} {R : gR} {μ : gM} {L : List Value} {st : List Value} {o : Nat} {i : Int32} (hk : gc_kd o = 20) : gc_W (gc_S d) cX11_ofMourner 11 0 R 80 L (.int i :: .ref o :: st) μ ↔ (vp_in i (gc_al o) ∧ gc_W (gc_S d) cX11_ofMourner 11 0 R 81 L (.int (μ o i.toNatClampNeg) :: st) μ) := us_iald dX11_ofMourner_80 hk
theorem u83_81 {d : Nat} {R : gR} {μ : gM} {L : List Value} {v : Int32}  : gc_W (gc_S d) cX11_ofMourner 11 0 R 81 L [.int v] μ ↔ R (some (.int v)) μ := us_iret dX11_ofMourner_81 rfl
theorem u83_82 {d : Nat} {R : gR} {μ : gM} {l0 l1 l2 : Value} {st : List Value} {x : Int32}  : gc_W (gc_S d) cX11_ofMourner 11 0 R 82 [l0, l1, l2, .int x] st μ ↔ gc_W (gc_S d) cX11_ofMourner 11 0 R 83 [l0, l1, l2, .int x] (.int x :: st) μ := us_iload_n dX11_ofMourner_82 rfl
theorem u83_83 {d : Nat} {R : gR} {μ : gM} {L : List Value} {v : Int32}  : gc_W (gc_S d) cX11_ofMourner 11 0 R 83 L [.int v] μ ↔ R (some (.int v)) μ := us_iret dX11_ofMourner_83 rfl
theorem u83_84 {d : Nat} {R : gR} {μ : gM} {l1 l2 l3 : Value} {st : List Value} {x : Nat}  : gc_W (gc_S d) cX11_ofMourner 11 0 R 84 [.ref x, l1, l2, l3] st μ ↔ gc_W (gc_S d) cX11_ofMourner 11 0 R 85 [.ref x, l1, l2, l3] (.ref x :: st) μ := us_aload_n dX11_ofMourner_84 rfl
theorem u83_85 {d : Nat} {R : gR} {μ : gM} {L : List Value} {st : List Value} {o : Nat} (hk : gc_kd o = 11) : gc_W (gc_S d) cX11_ofMourner 11 0 R 85 L (.ref o :: st) μ ↔ gc_W (gc_S d) cX11_ofMourner 11 0 R 88 L (gc_fv o 0 μ :: st) μ := us_getf dX11_ofMourner_85 gf_11_38 hk
theorem u83_88 {d : Nat} {R : gR} {μ : gM} {L : List Value} {st : List Value} {o : Nat} (hk : gc_kd o = 0) : gc_W (gc_S d) cX11_ofMourner 11 0 R 88 L (.ref o :: st) μ ↔ gc_W (gc_S d) cX11_ofMourner 11 0 R 91 L (gc_fv o 7 μ :: st) μ := us_getf dX11_ofMourner_88 gf_11_129 hk
theorem u83_91 {d : Nat} {R : gR} {μ : gM} {l0 l2 l3 : Value} {st : List Value} {x : Int32}  : gc_W (gc_S d) cX11_ofMourner 11 0 R 91 [l0, .int x, l2, l3] st μ ↔ gc_W (gc_S d) cX11_ofMourner 11 0 R 92 [l0, .int x, l2, l3] (.int x :: st) μ := us_iload_n dX11_ofMourner_91 rfl
theorem u83_92 {d : Nat} {R : gR} {μ : gM} {L : List Value} {st : List Value} {o : Nat} {i : Int32} (hk : gc_kd o = 20) : gc_W (gc_S d) cX11_ofMourner 11 0 R 92 L (.int i :: .ref o :: st) μ ↔ (vp_in i (gc_al o) ∧ gc_W (gc_S d) cX11_ofMourner 11 0 R 93 L (.int (μ o i.toNatClampNeg) :: st) μ) := us_iald dX11_ofMourner_92 hk
theorem u83_93 {d : Nat} {R : gR} {μ : gM} {L : List Value} {v : Int32}  : gc_W (gc_S d) cX11_ofMourner 11 0 R 93 L [.int v] μ ↔ R (some (.int v)) μ := us_iret dX11_ofMourner_93 rfl
theorem u83_94 {d : Nat} {R : gR} {μ : gM} {l1 l2 l3 : Value} {st : List Value} {x : Nat}  : gc_W (gc_S d) cX11_ofMourner 11 0 R 94 [.ref x, l1, l2, l3] st μ ↔ gc_W (gc_S d) cX11_ofMourner 11 0 R 95 [.ref x, l1, l2, l3] (.ref x :: st) μ := us_aload_n dX11_ofMourner_94 rfl
theorem u83_95 {d : Nat} {R : gR} {μ : gM} {L : List Value} {st : List Value} {o : Nat} (hk : gc_kd o = 11) : gc_W (gc_S d) cX11_ofMourner 11 0 R 95 L (.ref o :: st) μ ↔ gc_W (gc_S d) cX11_ofMourner 11 0 R 98 L (gc_fv o 0 μ :: st) μ := us_getf dX11_ofMourner_95 gf_11_38 hk
theorem u83_98 {d : Nat} {R : gR} {μ : gM} {L : List Value} {st : List Value} {o : Nat} (hk : gc_kd o = 0) : gc_W (gc_S d) cX11_ofMourner 11 0 R 98 L (.ref o :: st) μ ↔ gc_W (gc_S d) cX11_ofMourner 11 0 R 101 L (gc_fv o 8 μ :: st) μ := us_getf dX11_ofMourner_98 gf_11_132 hk
theorem u83_101 {d : Nat} {R : gR} {μ : gM} {l0 l2 l3 : Value} {st : List Value} {x : Int32}  : gc_W (gc_S d) cX11_ofMourner 11 0 R 101 [l0, .int x, l2, l3] st μ ↔ gc_W (gc_S d) cX11_ofMourner 11 0 R 102 [l0, .int x, l2, l3] (.int x :: st) μ := us_iload_n dX11_ofMourner_101 rfl
theorem u83_102 {d : Nat} {R : gR} {μ : gM} {L : List Value} {st : List Value} {o : Nat} {i : Int32} (hk : gc_kd o = 20) : gc_W (gc_S d) cX11_ofMourner 11 0 R 102 L (.int i :: .ref o :: st) μ ↔ (vp_in i (gc_al o) ∧ gc_W (gc_S d) cX11_ofMourner 11 0 R 103 L (.int (μ o i.toNatClampNeg) :: st) μ) := us_iald dX11_ofMourner_102 hk
theorem u83_103 {d : Nat} {R : gR} {μ : gM} {L : List Value} {v : Int32}  : gc_W (gc_S d) cX11_ofMourner 11 0 R 103 L [.int v] μ ↔ R (some (.int v)) μ := us_iret dX11_ofMourner_103 rfl
theorem u83_104 {d : Nat} {R : gR} {μ : gM} {l1 l2 l3 : Value} {st : List Value} {x : Nat}  : gc_W (gc_S d) cX11_ofMourner 11 0 R 104 [.ref x, l1, l2, l3] st μ ↔ gc_W (gc_S d) cX11_ofMourner 11 0 R 105 [.ref x, l1, l2, l3] (.ref x :: st) μ := us_aload_n dX11_ofMourner_104 rfl
theorem u83_105 {d : Nat} {R : gR} {μ : gM} {L : List Value} {st : List Value} {o : Nat} (hk : gc_kd o = 11) : gc_W (gc_S d) cX11_ofMourner 11 0 R 105 L (.ref o :: st) μ ↔ gc_W (gc_S d) cX11_ofMourner 11 0 R 108 L (gc_fv o 0 μ :: st) μ := us_getf dX11_ofMourner_105 gf_11_38 hk
theorem u83_108 {d : Nat} {R : gR} {μ : gM} {l0 l2 l3 : Value} {st : List Value} {x : Int32}  : gc_W (gc_S d) cX11_ofMourner 11 0 R 108 [l0, .int x, l2, l3] st μ ↔ gc_W (gc_S d) cX11_ofMourner 11 0 R 109 [l0, .int x, l2, l3] (.int x :: st) μ := us_iload_n dX11_ofMourner_108 rfl
theorem u83_109 {d : Nat} {R : gR} {μ : gM} {L : List Value} {o : Nat} {a0 : Int32} (hk : gc_kd o = 0) : gc_W (gc_S d) cX11_ofMourner 11 0 R 109 L [.int a0, .ref o] μ ↔ gc_S d 21 [.ref o, .int a0] μ (fun v μ' => gc_W (gc_S d) cX11_ofMourner 11 0 R 112 L (v.toList ++ []) μ') := us_virt dX11_ofMourner_109 gn_11_138 gc_11_138_0 hk rfl rfl rfl rfl rfl
theorem u83_112 {d : Nat} {R : gR} {μ : gM} {L : List Value} {v : Int32}  : gc_W (gc_S d) cX11_ofMourner 11 0 R 112 L [.int v] μ ↔ R (some (.int v)) μ := us_iret dX11_ofMourner_112 rfl
theorem u83_113 {d : Nat} {R : gR} {μ : gM} {l1 l2 l3 : Value} {st : List Value} {x : Nat}  : gc_W (gc_S d) cX11_ofMourner 11 0 R 113 [.ref x, l1, l2, l3] st μ ↔ gc_W (gc_S d) cX11_ofMourner 11 0 R 114 [.ref x, l1, l2, l3] (.ref x :: st) μ := us_aload_n dX11_ofMourner_113 rfl
theorem u83_114 {d : Nat} {R : gR} {μ : gM} {L : List Value} {st : List Value} {o : Nat} (hk : gc_kd o = 11) : gc_W (gc_S d) cX11_ofMourner 11 0 R 114 L (.ref o :: st) μ ↔ gc_W (gc_S d) cX11_ofMourner 11 0 R 117 L (gc_fv o 0 μ :: st) μ := us_getf dX11_ofMourner_114 gf_11_38 hk
theorem u83_117 {d : Nat} {R : gR} {μ : gM} {l0 l2 l3 : Value} {st : List Value} {x : Int32}  : gc_W (gc_S d) cX11_ofMourner 11 0 R 117 [l0, .int x, l2, l3] st μ ↔ gc_W (gc_S d) cX11_ofMourner 11 0 R 118 [l0, .int x, l2, l3] (.int x :: st) μ := us_iload_n dX11_ofMourner_117 rfl
theorem u83_118 {d : Nat} {R : gR} {μ : gM} {L : List Value} {o : Nat} {a0 : Int32} (hk : gc_kd o = 0) : gc_W (gc_S d) cX11_ofMourner 11 0 R 118 L [.int a0, .ref o] μ ↔ gc_S d 3 [.ref o, .int a0] μ (fun v μ' => gc_W (gc_S d) cX11_ofMourner 11 0 R 121 L (v.toList ++ []) μ') := us_virt dX11_ofMourner_118 gn_11_141 gc_11_141_0 hk rfl rfl rfl rfl rfl
theorem u83_121 {d : Nat} {R : gR} {μ : gM} {l0 l1 l2 : Value} {st : List Value} {x : Int32}  : gc_W (gc_S d) cX11_ofMourner 11 0 R 121 [l0, l1, l2, .int x] st μ ↔ gc_W (gc_S d) cX11_ofMourner 11 0 R 122 [l0, l1, l2, .int x] (.int x :: st) μ := us_iload_n dX11_ofMourner_121 rfl
theorem u83_122 {d : Nat} {R : gR} {μ : gM} {l1 l2 l3 : Value} {st : List Value} {x : Nat}  : gc_W (gc_S d) cX11_ofMourner 11 0 R 122 [.ref x, l1, l2, l3] st μ ↔ gc_W (gc_S d) cX11_ofMourner 11 0 R 123 [.ref x, l1, l2, l3] (.ref x :: st) μ := us_aload_n dX11_ofMourner_122 rfl
theorem u83_123 {d : Nat} {R : gR} {μ : gM} {L : List Value} {st : List Value} {o : Nat} (hk : gc_kd o = 11) : gc_W (gc_S d) cX11_ofMourner 11 0 R 123 L (.ref o :: st) μ ↔ gc_W (gc_S d) cX11_ofMourner 11 0 R 126 L (gc_fv o 0 μ :: st) μ := us_getf dX11_ofMourner_123 gf_11_38 hk
theorem u83_126 {d : Nat} {R : gR} {μ : gM} {l0 l2 l3 : Value} {st : List Value} {x : Int32}  : gc_W (gc_S d) cX11_ofMourner 11 0 R 126 [l0, .int x, l2, l3] st μ ↔ gc_W (gc_S d) cX11_ofMourner 11 0 R 127 [l0, .int x, l2, l3] (.int x :: st) μ := us_iload_n dX11_ofMourner_126 rfl
theorem u83_127 {d : Nat} {R : gR} {μ : gM} {L : List Value} {o : Nat} {a0 : Int32} {s0 s1 : Value} (hk : gc_kd o = 0) : gc_W (gc_S d) cX11_ofMourner 11 0 R 127 L [.int a0, .ref o, s0, s1] μ ↔ gc_S d 21 [.ref o, .int a0] μ (fun v μ' => gc_W (gc_S d) cX11_ofMourner 11 0 R 130 L (v.toList ++ [s0, s1]) μ') := us_virt dX11_ofMourner_127 gn_11_138 gc_11_138_0 hk rfl rfl rfl rfl rfl
theorem u83_130_1 {d : Nat} {R : gR} {μ : gM} {L : List Value} {o : Nat} {a0 a1 : Int32} (hk : gc_kd o = 1) : gc_W (gc_S d) cX11_ofMourner 11 0 R 130 L [.int a1, .int a0, .ref o] μ ↔ gc_S d 22 [.ref o, .int a0, .int a1] μ (fun v μ' => gc_W (gc_S d) cX11_ofMourner 11 0 R 133 L (v.toList ++ []) μ') := us_virt dX11_ofMourner_130 gn_11_145 gc_11_145_1 hk rfl rfl rfl rfl rfl
theorem u83_130_3 {d : Nat} {R : gR} {μ : gM} {L : List Value} {o : Nat} {a0 a1 : Int32} (hk : gc_kd o = 3) : gc_W (gc_S d) cX11_ofMourner 11 0 R 130 L [.int a1, .int a0, .ref o] μ ↔ gc_S d 23 [.ref o, .int a0, .int a1] μ (fun v μ' => gc_W (gc_S d) cX11_ofMourner 11 0 R 133 L (v.toList ++ []) μ') := us_virt dX11_ofMourner_130 gn_11_145 gc_11_145_3 hk rfl rfl rfl rfl rfl
theorem u83_130_4 {d : Nat} {R : gR} {μ : gM} {L : List Value} {o : Nat} {a0 a1 : Int32} (hk : gc_kd o = 4) : gc_W (gc_S d) cX11_ofMourner 11 0 R 130 L [.int a1, .int a0, .ref o] μ ↔ gc_S d 24 [.ref o, .int a0, .int a1] μ (fun v μ' => gc_W (gc_S d) cX11_ofMourner 11 0 R 133 L (v.toList ++ []) μ') := us_virt dX11_ofMourner_130 gn_11_145 gc_11_145_4 hk rfl rfl rfl rfl rfl
theorem u83_130_5 {d : Nat} {R : gR} {μ : gM} {L : List Value} {o : Nat} {a0 a1 : Int32} (hk : gc_kd o = 5) : gc_W (gc_S d) cX11_ofMourner 11 0 R 130 L [.int a1, .int a0, .ref o] μ ↔ gc_S d 23 [.ref o, .int a0, .int a1] μ (fun v μ' => gc_W (gc_S d) cX11_ofMourner 11 0 R 133 L (v.toList ++ []) μ') := us_virt dX11_ofMourner_130 gn_11_145 gc_11_145_5 hk rfl rfl rfl rfl rfl
theorem u83_130_6 {d : Nat} {R : gR} {μ : gM} {L : List Value} {o : Nat} {a0 a1 : Int32} (hk : gc_kd o = 6) : gc_W (gc_S d) cX11_ofMourner 11 0 R 130 L [.int a1, .int a0, .ref o] μ ↔ gc_S d 25 [.ref o, .int a0, .int a1] μ (fun v μ' => gc_W (gc_S d) cX11_ofMourner 11 0 R 133 L (v.toList ++ []) μ') := us_virt dX11_ofMourner_130 gn_11_145 gc_11_145_6 hk rfl rfl rfl rfl rfl
theorem u83_130_8 {d : Nat} {R : gR} {μ : gM} {L : List Value} {o : Nat} {a0 a1 : Int32} (hk : gc_kd o = 8) : gc_W (gc_S d) cX11_ofMourner 11 0 R 130 L [.int a1, .int a0, .ref o] μ ↔ gc_S d 24 [.ref o, .int a0, .int a1] μ (fun v μ' => gc_W (gc_S d) cX11_ofMourner 11 0 R 133 L (v.toList ++ []) μ') := us_virt dX11_ofMourner_130 gn_11_145 gc_11_145_8 hk rfl rfl rfl rfl rfl
theorem u83_130_10 {d : Nat} {R : gR} {μ : gM} {L : List Value} {o : Nat} {a0 a1 : Int32} (hk : gc_kd o = 10) : gc_W (gc_S d) cX11_ofMourner 11 0 R 130 L [.int a1, .int a0, .ref o] μ ↔ gc_S d 23 [.ref o, .int a0, .int a1] μ (fun v μ' => gc_W (gc_S d) cX11_ofMourner 11 0 R 133 L (v.toList ++ []) μ') := us_virt dX11_ofMourner_130 gn_11_145 gc_11_145_10 hk rfl rfl rfl rfl rfl
theorem u83_133 {d : Nat} {R : gR} {μ : gM} {L : List Value} {v : Int32}  : gc_W (gc_S d) cX11_ofMourner 11 0 R 133 L [.int v] μ ↔ R (some (.int v)) μ := us_iret dX11_ofMourner_133 rfl
theorem u83_134 {d : Nat} {R : gR} {μ : gM} {l1 l2 l3 : Value} {st : List Value} {x : Nat}  : gc_W (gc_S d) cX11_ofMourner 11 0 R 134 [.ref x, l1, l2, l3] st μ ↔ gc_W (gc_S d) cX11_ofMourner 11 0 R 135 [.ref x, l1, l2, l3] (.ref x :: st) μ := us_aload_n dX11_ofMourner_134 rfl
theorem u83_135 {d : Nat} {R : gR} {μ : gM} {L : List Value} {st : List Value} {o : Nat} (hk : gc_kd o = 11) : gc_W (gc_S d) cX11_ofMourner 11 0 R 135 L (.ref o :: st) μ ↔ gc_W (gc_S d) cX11_ofMourner 11 0 R 138 L (gc_fv o 0 μ :: st) μ := us_getf dX11_ofMourner_135 gf_11_38 hk
theorem u83_138 {d : Nat} {R : gR} {μ : gM} {l0 l2 l3 : Value} {st : List Value} {x : Int32}  : gc_W (gc_S d) cX11_ofMourner 11 0 R 138 [l0, .int x, l2, l3] st μ ↔ gc_W (gc_S d) cX11_ofMourner 11 0 R 139 [l0, .int x, l2, l3] (.int x :: st) μ := us_iload_n dX11_ofMourner_138 rfl
theorem u83_139 {d : Nat} {R : gR} {μ : gM} {L : List Value} {o : Nat} {a0 : Int32} (hk : gc_kd o = 0) : gc_W (gc_S d) cX11_ofMourner 11 0 R 139 L [.int a0, .ref o] μ ↔ gc_S d 3 [.ref o, .int a0] μ (fun v μ' => gc_W (gc_S d) cX11_ofMourner 11 0 R 142 L (v.toList ++ []) μ') := us_virt dX11_ofMourner_139 gn_11_141 gc_11_141_0 hk rfl rfl rfl rfl rfl
theorem u83_142 {d : Nat} {R : gR} {μ : gM} {l0 l1 l2 : Value} {st : List Value} {x : Int32}  : gc_W (gc_S d) cX11_ofMourner 11 0 R 142 [l0, l1, l2, .int x] st μ ↔ gc_W (gc_S d) cX11_ofMourner 11 0 R 143 [l0, l1, l2, .int x] (.int x :: st) μ := us_iload_n dX11_ofMourner_142 rfl
theorem u83_143 {d : Nat} {R : gR} {μ : gM} {l1 l2 l3 : Value} {st : List Value} {x : Nat}  : gc_W (gc_S d) cX11_ofMourner 11 0 R 143 [.ref x, l1, l2, l3] st μ ↔ gc_W (gc_S d) cX11_ofMourner 11 0 R 144 [.ref x, l1, l2, l3] (.ref x :: st) μ := us_aload_n dX11_ofMourner_143 rfl
theorem u83_144 {d : Nat} {R : gR} {μ : gM} {L : List Value} {st : List Value} {o : Nat} (hk : gc_kd o = 11) : gc_W (gc_S d) cX11_ofMourner 11 0 R 144 L (.ref o :: st) μ ↔ gc_W (gc_S d) cX11_ofMourner 11 0 R 147 L (gc_fv o 0 μ :: st) μ := us_getf dX11_ofMourner_144 gf_11_38 hk
theorem u83_147 {d : Nat} {R : gR} {μ : gM} {L : List Value} {st : List Value} {o : Nat} (hk : gc_kd o = 0) : gc_W (gc_S d) cX11_ofMourner 11 0 R 147 L (.ref o :: st) μ ↔ gc_W (gc_S d) cX11_ofMourner 11 0 R 150 L (gc_fv o 12 μ :: st) μ := us_getf dX11_ofMourner_147 gf_11_149 hk
theorem u83_150_1 {d : Nat} {R : gR} {μ : gM} {L : List Value} {o : Nat} {a0 a1 : Int32} (hk : gc_kd o = 1) : gc_W (gc_S d) cX11_ofMourner 11 0 R 150 L [.int a1, .int a0, .ref o] μ ↔ gc_S d 32 [.ref o, .int a0, .int a1] μ (fun v μ' => gc_W (gc_S d) cX11_ofMourner 11 0 R 153 L (v.toList ++ []) μ') := us_virt dX11_ofMourner_150 gn_11_152 gc_11_152_1 hk rfl rfl rfl rfl rfl
theorem u83_150_3 {d : Nat} {R : gR} {μ : gM} {L : List Value} {o : Nat} {a0 a1 : Int32} (hk : gc_kd o = 3) : gc_W (gc_S d) cX11_ofMourner 11 0 R 150 L [.int a1, .int a0, .ref o] μ ↔ gc_S d 32 [.ref o, .int a0, .int a1] μ (fun v μ' => gc_W (gc_S d) cX11_ofMourner 11 0 R 153 L (v.toList ++ []) μ') := us_virt dX11_ofMourner_150 gn_11_152 gc_11_152_3 hk rfl rfl rfl rfl rfl
theorem u83_150_4 {d : Nat} {R : gR} {μ : gM} {L : List Value} {o : Nat} {a0 a1 : Int32} (hk : gc_kd o = 4) : gc_W (gc_S d) cX11_ofMourner 11 0 R 150 L [.int a1, .int a0, .ref o] μ ↔ gc_S d 34 [.ref o, .int a0, .int a1] μ (fun v μ' => gc_W (gc_S d) cX11_ofMourner 11 0 R 153 L (v.toList ++ []) μ') := us_virt dX11_ofMourner_150 gn_11_152 gc_11_152_4 hk rfl rfl rfl rfl rfl
theorem u83_150_5 {d : Nat} {R : gR} {μ : gM} {L : List Value} {o : Nat} {a0 a1 : Int32} (hk : gc_kd o = 5) : gc_W (gc_S d) cX11_ofMourner 11 0 R 150 L [.int a1, .int a0, .ref o] μ ↔ gc_S d 33 [.ref o, .int a0, .int a1] μ (fun v μ' => gc_W (gc_S d) cX11_ofMourner 11 0 R 153 L (v.toList ++ []) μ') := us_virt dX11_ofMourner_150 gn_11_152 gc_11_152_5 hk rfl rfl rfl rfl rfl
theorem u83_150_6 {d : Nat} {R : gR} {μ : gM} {L : List Value} {o : Nat} {a0 a1 : Int32} (hk : gc_kd o = 6) : gc_W (gc_S d) cX11_ofMourner 11 0 R 150 L [.int a1, .int a0, .ref o] μ ↔ gc_S d 36 [.ref o, .int a0, .int a1] μ (fun v μ' => gc_W (gc_S d) cX11_ofMourner 11 0 R 153 L (v.toList ++ []) μ') := us_virt dX11_ofMourner_150 gn_11_152 gc_11_152_6 hk rfl rfl rfl rfl rfl
theorem u83_150_8 {d : Nat} {R : gR} {μ : gM} {L : List Value} {o : Nat} {a0 a1 : Int32} (hk : gc_kd o = 8) : gc_W (gc_S d) cX11_ofMourner 11 0 R 150 L [.int a1, .int a0, .ref o] μ ↔ gc_S d 33 [.ref o, .int a0, .int a1] μ (fun v μ' => gc_W (gc_S d) cX11_ofMourner 11 0 R 153 L (v.toList ++ []) μ') := us_virt dX11_ofMourner_150 gn_11_152 gc_11_152_8 hk rfl rfl rfl rfl rfl
theorem u83_150_10 {d : Nat} {R : gR} {μ : gM} {L : List Value} {o : Nat} {a0 a1 : Int32} (hk : gc_kd o = 10) : gc_W (gc_S d) cX11_ofMourner 11 0 R 150 L [.int a1, .int a0, .ref o] μ ↔ gc_S d 35 [.ref o, .int a0, .int a1] μ (fun v μ' => gc_W (gc_S d) cX11_ofMourner 11 0 R 153 L (v.toList ++ []) μ') := us_virt dX11_ofMourner_150 gn_11_152 gc_11_152_10 hk rfl rfl rfl rfl rfl
theorem u83_153 {d : Nat} {R : gR} {μ : gM} {L : List Value} {v : Int32}  : gc_W (gc_S d) cX11_ofMourner 11 0 R 153 L [.int v] μ ↔ R (some (.int v)) μ := us_iret dX11_ofMourner_153 rfl
theorem s83 {d : Nat} {R : gR} {μ : gM} {o : Nat} {a0 a1 : Int32} : gc_S (d + 1) 83 [.ref o, .int a0, .int a1] μ R ↔ gc_W (gc_S d) cX11_ofMourner 11 0 R 0 [.ref o, .int a0, .int a1, .retAddr 0] [] μ := us_call (gm_83) rfl rfl
theorem dX11_change_0 : decode cX11_change 0 = .ok (.aload_n 0, 1) := by decide +kernel
theorem dX11_change_1 : decode cX11_change 1 = .ok (.iload_n 1, 1) := by decide +kernel
theorem dX11_change_2 : decode cX11_change 2 = .ok (.invokevirtual 135, 3) := by decide +kernel
theorem dX11_change_5 : decode cX11_change 5 = .ok (.ifCond .eq 29, 3) := by decide +kernel
theorem dX11_change_8 : decode cX11_change 8 = .ok (.iconst 1, 1) := by decide +kernel
theorem dX11_change_9 : decode cX11_change 9 = .ok (.iload_n 2, 1) := by decide +kernel
theorem dX11_change_10 : decode cX11_change 10 = .ok (.invokestatic 84, 3) := by decide +kernel
theorem dX11_change_13 : decode cX11_change 13 = .ok (.ifCond .eq 21, 3) := by decide +kernel
theorem dX11_change_16 : decode cX11_change 16 = .ok (.iload_n 2, 1) := by decide +kernel
theorem dX11_change_17 : decode cX11_change 17 = .ok (.ifCond .ne 8, 3) := by decide +kernel
theorem dX11_change_20 : decode cX11_change 20 = .ok (.bipush 99, 2) := by decide +kernel
theorem dX11_change_22 : decode cX11_change 22 = .ok (.goto 5, 3) := by decide +kernel
theorem dX11_change_25 : decode cX11_change 25 = .ok (.bipush 15, 2) := by decide +kernel
theorem dX11_change_27 : decode cX11_change 27 = .ok (.iload_n 3, 1) := by decide +kernel
theorem dX11_change_28 : decode cX11_change 28 = .ok (.invokestatic 84, 3) := by decide +kernel
theorem dX11_change_31 : decode cX11_change 31 = .ok (.ifCond .ne 9, 3) := by decide +kernel
theorem dX11_change_34 : decode cX11_change 34 = .ok (.aload_n 0, 1) := by decide +kernel
theorem dX11_change_35 : decode cX11_change 35 = .ok (.iconst 1, 1) := by decide +kernel
theorem dX11_change_36 : decode cX11_change 36 = .ok (.invokevirtual 88, 3) := by decide +kernel
theorem dX11_change_39 : decode cX11_change 39 = .ok (.ireturn, 1) := by decide +kernel
theorem dX11_change_40 : decode cX11_change 40 = .ok (.iload_n 2, 1) := by decide +kernel
theorem dX11_change_41 : decode cX11_change 41 = .ok (.ifCond .ne 13, 3) := by decide +kernel
theorem dX11_change_44 : decode cX11_change 44 = .ok (.aload_n 0, 1) := by decide +kernel
theorem dX11_change_45 : decode cX11_change 45 = .ok (.getfield 38, 3) := by decide +kernel
theorem dX11_change_48 : decode cX11_change 48 = .ok (.getfield 129, 3) := by decide +kernel
theorem dX11_change_51 : decode cX11_change 51 = .ok (.goto 10, 3) := by decide +kernel
theorem dX11_change_54 : decode cX11_change 54 = .ok (.aload_n 0, 1) := by decide +kernel
theorem dX11_change_55 : decode cX11_change 55 = .ok (.getfield 38, 3) := by decide +kernel
theorem dX11_change_58 : decode cX11_change 58 = .ok (.getfield 132, 3) := by decide +kernel
theorem dX11_change_61 : decode cX11_change 61 = .ok (.astore 4, 2) := by decide +kernel
theorem dX11_change_63 : decode cX11_change 63 = .ok (.aload 4, 2) := by decide +kernel
theorem dX11_change_65 : decode cX11_change 65 = .ok (.iload_n 1, 1) := by decide +kernel
theorem dX11_change_66 : decode cX11_change 66 = .ok (.iaload, 1) := by decide +kernel
theorem dX11_change_67 : decode cX11_change 67 = .ok (.istore 5, 2) := by decide +kernel
theorem dX11_change_69 : decode cX11_change 69 = .ok (.aload 4, 2) := by decide +kernel
theorem dX11_change_71 : decode cX11_change 71 = .ok (.iload_n 1, 1) := by decide +kernel
theorem dX11_change_72 : decode cX11_change 72 = .ok (.iload_n 3, 1) := by decide +kernel
theorem dX11_change_73 : decode cX11_change 73 = .ok (.iastore, 1) := by decide +kernel
theorem dX11_change_74 : decode cX11_change 74 = .ok (.iload 5, 2) := by decide +kernel
theorem dX11_change_76 : decode cX11_change 76 = .ok (.ireturn, 1) := by decide +kernel
theorem u84_0 {d : Nat} {R : gR} {μ : gM} {l1 l2 l3 l4 l5 : Value} {st : List Value} {x : Nat}  : gc_W (gc_S d) cX11_change 11 0 R 0 [.ref x, l1, l2, l3, l4, l5] st μ ↔ gc_W (gc_S d) cX11_change 11 0 R 1 [.ref x, l1, l2, l3, l4, l5] (.ref x :: st) μ := us_aload_n dX11_change_0 rfl
theorem u84_1 {d : Nat} {R : gR} {μ : gM} {l0 l2 l3 l4 l5 : Value} {st : List Value} {x : Int32}  : gc_W (gc_S d) cX11_change 11 0 R 1 [l0, .int x, l2, l3, l4, l5] st μ ↔ gc_W (gc_S d) cX11_change 11 0 R 2 [l0, .int x, l2, l3, l4, l5] (.int x :: st) μ := us_iload_n dX11_change_1 rfl
theorem u84_2 {d : Nat} {R : gR} {μ : gM} {L : List Value} {o : Nat} {a0 : Int32} (hk : gc_kd o = 11) : gc_W (gc_S d) cX11_change 11 0 R 2 L [.int a0, .ref o] μ ↔ gc_S d 82 [.ref o, .int a0] μ (fun v μ' => gc_W (gc_S d) cX11_change 11 0 R 5 L (v.toList ++ []) μ') := us_virt dX11_change_2 gn_11_135 gc_11_135_11 hk rfl rfl rfl rfl rfl
theorem u84_5 {d : Nat} {R : gR} {μ : gM} {L : List Value} {st : List Value} {x : Int32}  : gc_W (gc_S d) cX11_change 11 0 R 5 L (.int x :: st) μ ↔ if x = 0 then gc_W (gc_S d) cX11_change 11 0 R 34 L st μ else gc_W (gc_S d) cX11_change 11 0 R 8 L st μ := us_ifeq dX11_change_5 rfl
theorem u84_8 {d : Nat} {R : gR} {μ : gM} {L : List Value} {st : List Value}   : gc_W (gc_S d) cX11_change 11 0 R 8 L st μ ↔ gc_W (gc_S d) cX11_change 11 0 R 9 L (.int 1 :: st) μ := us_iconst dX11_change_8 ci_iconst_1
theorem u84_9 {d : Nat} {R : gR} {μ : gM} {l0 l1 l3 l4 l5 : Value} {st : List Value} {x : Int32}  : gc_W (gc_S d) cX11_change 11 0 R 9 [l0, l1, .int x, l3, l4, l5] st μ ↔ gc_W (gc_S d) cX11_change 11 0 R 10 [l0, l1, .int x, l3, l4, l5] (.int x :: st) μ := us_iload_n dX11_change_9 rfl
theorem u84_10 {d : Nat} {R : gR} {μ : gM} {L : List Value}  {a0 a1 : Int32}  : gc_W (gc_S d) cX11_change 11 0 R 10 L [.int a1, .int a0] μ ↔ gc_S d 73 [.int a0, .int a1] μ (fun v μ' => gc_W (gc_S d) cX11_change 11 0 R 13 L (v.toList ++ []) μ') := us_stat dX11_change_10 gs_11_84 gne_11_84 gn_11_84 gc_11_84_97 rfl rfl rfl rfl
theorem u84_13 {d : Nat} {R : gR} {μ : gM} {L : List Value} {st : List Value} {x : Int32}  : gc_W (gc_S d) cX11_change 11 0 R 13 L (.int x :: st) μ ↔ if x = 0 then gc_W (gc_S d) cX11_change 11 0 R 34 L st μ else gc_W (gc_S d) cX11_change 11 0 R 16 L st μ := us_ifeq dX11_change_13 rfl
theorem u84_16 {d : Nat} {R : gR} {μ : gM} {l0 l1 l3 l4 l5 : Value} {st : List Value} {x : Int32}  : gc_W (gc_S d) cX11_change 11 0 R 16 [l0, l1, .int x, l3, l4, l5] st μ ↔ gc_W (gc_S d) cX11_change 11 0 R 17 [l0, l1, .int x, l3, l4, l5] (.int x :: st) μ := us_iload_n dX11_change_16 rfl
theorem u84_17 {d : Nat} {R : gR} {μ : gM} {L : List Value} {st : List Value} {x : Int32}  : gc_W (gc_S d) cX11_change 11 0 R 17 L (.int x :: st) μ ↔ if x = 0 then gc_W (gc_S d) cX11_change 11 0 R 20 L st μ else gc_W (gc_S d) cX11_change 11 0 R 25 L st μ := us_ifne dX11_change_17 rfl
theorem u84_20 {d : Nat} {R : gR} {μ : gM} {L : List Value} {st : List Value}   : gc_W (gc_S d) cX11_change 11 0 R 20 L st μ ↔ gc_W (gc_S d) cX11_change 11 0 R 22 L (.int 99 :: st) μ := us_bipush dX11_change_20 ci_bipush_99
theorem u84_22 {d : Nat} {R : gR} {μ : gM} {L : List Value} {st : List Value}  : gc_W (gc_S d) cX11_change 11 0 R 22 L st μ ↔ gc_W (gc_S d) cX11_change 11 0 R 27 L st μ := us_goto dX11_change_22 rfl
theorem u84_25 {d : Nat} {R : gR} {μ : gM} {L : List Value} {st : List Value}   : gc_W (gc_S d) cX11_change 11 0 R 25 L st μ ↔ gc_W (gc_S d) cX11_change 11 0 R 27 L (.int 15 :: st) μ := us_bipush dX11_change_25 ci_bipush_15
theorem u84_27 {d : Nat} {R : gR} {μ : gM} {l0 l1 l2 l4 l5 : Value} {st : List Value} {x : Int32}  : gc_W (gc_S d) cX11_change 11 0 R 27 [l0, l1, l2, .int x, l4, l5] st μ ↔ gc_W (gc_S d) cX11_change 11 0 R 28 [l0, l1, l2, .int x, l4, l5] (.int x :: st) μ := us_iload_n dX11_change_27 rfl
theorem u84_28 {d : Nat} {R : gR} {μ : gM} {L : List Value}  {a0 a1 : Int32}  : gc_W (gc_S d) cX11_change 11 0 R 28 L [.int a1, .int a0] μ ↔ gc_S d 73 [.int a0, .int a1] μ (fun v μ' => gc_W (gc_S d) cX11_change 11 0 R 31 L (v.toList ++ []) μ') := us_stat dX11_change_28 gs_11_84 gne_11_84 gn_11_84 gc_11_84_97 rfl rfl rfl rfl
theorem u84_31 {d : Nat} {R : gR} {μ : gM} {L : List Value} {st : List Value} {x : Int32}  : gc_W (gc_S d) cX11_change 11 0 R 31 L (.int x :: st) μ ↔ if x = 0 then gc_W (gc_S d) cX11_change 11 0 R 34 L st μ else gc_W (gc_S d) cX11_change 11 0 R 40 L st μ := us_ifne dX11_change_31 rfl
theorem u84_34 {d : Nat} {R : gR} {μ : gM} {l1 l2 l3 l4 l5 : Value} {st : List Value} {x : Nat}  : gc_W (gc_S d) cX11_change 11 0 R 34 [.ref x, l1, l2, l3, l4, l5] st μ ↔ gc_W (gc_S d) cX11_change 11 0 R 35 [.ref x, l1, l2, l3, l4, l5] (.ref x :: st) μ := us_aload_n dX11_change_34 rfl
theorem u84_35 {d : Nat} {R : gR} {μ : gM} {L : List Value} {st : List Value}   : gc_W (gc_S d) cX11_change 11 0 R 35 L st μ ↔ gc_W (gc_S d) cX11_change 11 0 R 36 L (.int 1 :: st) μ := us_iconst dX11_change_35 ci_iconst_1
theorem u84_36 {d : Nat} {R : gR} {μ : gM} {L : List Value} {o : Nat} {a0 : Int32} (hk : gc_kd o = 11) : gc_W (gc_S d) cX11_change 11 0 R 36 L [.int a0, .ref o] μ ↔ gc_S d 75 [.ref o, .int a0] μ (fun v μ' => gc_W (gc_S d) cX11_change 11 0 R 39 L (v.toList ++ []) μ') := us_virt dX11_change_36 gn_11_88 gc_11_88_11 hk rfl rfl rfl rfl rfl
theorem u84_39 {d : Nat} {R : gR} {μ : gM} {L : List Value} {v : Int32}  : gc_W (gc_S d) cX11_change 11 0 R 39 L [.int v] μ ↔ R (some (.int v)) μ := us_iret dX11_change_39 rfl
theorem u84_40 {d : Nat} {R : gR} {μ : gM} {l0 l1 l3 l4 l5 : Value} {st : List Value} {x : Int32}  : gc_W (gc_S d) cX11_change 11 0 R 40 [l0, l1, .int x, l3, l4, l5] st μ ↔ gc_W (gc_S d) cX11_change 11 0 R 41 [l0, l1, .int x, l3, l4, l5] (.int x :: st) μ := us_iload_n dX11_change_40 rfl
theorem u84_41 {d : Nat} {R : gR} {μ : gM} {L : List Value} {st : List Value} {x : Int32}  : gc_W (gc_S d) cX11_change 11 0 R 41 L (.int x :: st) μ ↔ if x = 0 then gc_W (gc_S d) cX11_change 11 0 R 44 L st μ else gc_W (gc_S d) cX11_change 11 0 R 54 L st μ := us_ifne dX11_change_41 rfl
theorem u84_44 {d : Nat} {R : gR} {μ : gM} {l1 l2 l3 l4 l5 : Value} {st : List Value} {x : Nat}  : gc_W (gc_S d) cX11_change 11 0 R 44 [.ref x, l1, l2, l3, l4, l5] st μ ↔ gc_W (gc_S d) cX11_change 11 0 R 45 [.ref x, l1, l2, l3, l4, l5] (.ref x :: st) μ := us_aload_n dX11_change_44 rfl
theorem u84_45 {d : Nat} {R : gR} {μ : gM} {L : List Value} {st : List Value} {o : Nat} (hk : gc_kd o = 11) : gc_W (gc_S d) cX11_change 11 0 R 45 L (.ref o :: st) μ ↔ gc_W (gc_S d) cX11_change 11 0 R 48 L (gc_fv o 0 μ :: st) μ := us_getf dX11_change_45 gf_11_38 hk
theorem u84_48 {d : Nat} {R : gR} {μ : gM} {L : List Value} {st : List Value} {o : Nat} (hk : gc_kd o = 0) : gc_W (gc_S d) cX11_change 11 0 R 48 L (.ref o :: st) μ ↔ gc_W (gc_S d) cX11_change 11 0 R 51 L (gc_fv o 7 μ :: st) μ := us_getf dX11_change_48 gf_11_129 hk
theorem u84_51 {d : Nat} {R : gR} {μ : gM} {L : List Value} {st : List Value}  : gc_W (gc_S d) cX11_change 11 0 R 51 L st μ ↔ gc_W (gc_S d) cX11_change 11 0 R 61 L st μ := us_goto dX11_change_51 rfl
theorem u84_54 {d : Nat} {R : gR} {μ : gM} {l1 l2 l3 l4 l5 : Value} {st : List Value} {x : Nat}  : gc_W (gc_S d) cX11_change 11 0 R 54 [.ref x, l1, l2, l3, l4, l5] st μ ↔ gc_W (gc_S d) cX11_change 11 0 R 55 [.ref x, l1, l2, l3, l4, l5] (.ref x :: st) μ := us_aload_n dX11_change_54 rfl
theorem u84_55 {d : Nat} {R : gR} {μ : gM} {L : List Value} {st : List Value} {o : Nat} (hk : gc_kd o = 11) : gc_W (gc_S d) cX11_change 11 0 R 55 L (.ref o :: st) μ ↔ gc_W (gc_S d) cX11_change 11 0 R 58 L (gc_fv o 0 μ :: st) μ := us_getf dX11_change_55 gf_11_38 hk
theorem u84_58 {d : Nat} {R : gR} {μ : gM} {L : List Value} {st : List Value} {o : Nat} (hk : gc_kd o = 0) : gc_W (gc_S d) cX11_change 11 0 R 58 L (.ref o :: st) μ ↔ gc_W (gc_S d) cX11_change 11 0 R 61 L (gc_fv o 8 μ :: st) μ := us_getf dX11_change_58 gf_11_132 hk
theorem u84_61 {d : Nat} {R : gR} {μ : gM} {l0 l1 l2 l3 l4 l5 : Value} {st : List Value} {x : Nat} (hs : gc_sk l4 = true) : gc_W (gc_S d) cX11_change 11 0 R 61 [l0, l1, l2, l3, l4, l5] (.ref x :: st) μ ↔ gc_W (gc_S d) cX11_change 11 0 R 63 [l0, l1, l2, l3, .ref x, l5] st μ := us_astore dX11_change_61 rfl hs
theorem u84_63 {d : Nat} {R : gR} {μ : gM} {l0 l1 l2 l3 l5 : Value} {st : List Value} {x : Nat}  : gc_W (gc_S d) cX11_change 11 0 R 63 [l0, l1, l2, l3, .ref x, l5] st μ ↔ gc_W (gc_S d) cX11_change 11 0 R 65 [l0, l1, l2, l3, .ref x, l5] (.ref x :: st) μ := us_aload dX11_change_63 rfl
theorem u84_65 {d : Nat} {R : gR} {μ : gM} {l0 l2 l3 l4 l5 : Value} {st : List Value} {x : Int32}  : gc_W (gc_S d) cX11_change 11 0 R 65 [l0, .int x, l2, l3, l4, l5] st μ ↔ gc_W (gc_S d) cX11_change 11 0 R 66 [l0, .int x, l2, l3, l4, l5] (.int x :: st) μ := us_iload_n dX11_change_65 rfl
theorem u84_66 {d : Nat} {R : gR} {μ : gM} {L : List Value} {st : List Value} {o : Nat} {i : Int32} (hk : gc_kd o = 20) : gc_W (gc_S d) cX11_change 11 0 R 66 L (.int i :: .ref o :: st) μ ↔ (vp_in i (gc_al o) ∧ gc_W (gc_S d) cX11_change 11 0 R 67 L (.int (μ o i.toNatClampNeg) :: st) μ) := us_iald dX11_change_66 hk
theorem u84_67 {d : Nat} {R : gR} {μ : gM} {l0 l1 l2 l3 l4 l5 : Value} {st : List Value} {x : Int32} (hs : gc_sk l5 = true) : gc_W (gc_S d) cX11_change 11 0 R 67 [l0, l1, l2, l3, l4, l5] (.int x :: st) μ ↔ gc_W (gc_S d) cX11_change 11 0 R 69 [l0, l1, l2, l3, l4, .int x] st μ := us_istore dX11_change_67 rfl hs
theorem u84_69 {d : Nat} {R : gR} {μ : gM} {l0 l1 l2 l3 l5 : Value} {st : List Value} {x : Nat}  : gc_W (gc_S d) cX11_change 11 0 R 69 [l0, l1, l2, l3, .ref x, l5] st μ ↔ gc_W (gc_S d) cX11_change 11 0 R 71 [l0, l1, l2, l3, .ref x, l5] (.ref x :: st) μ := us_aload dX11_change_69 rfl
theorem u84_71 {d : Nat} {R : gR} {μ : gM} {l0 l2 l3 l4 l5 : Value} {st : List Value} {x : Int32}  : gc_W (gc_S d) cX11_change 11 0 R 71 [l0, .int x, l2, l3, l4, l5] st μ ↔ gc_W (gc_S d) cX11_change 11 0 R 72 [l0, .int x, l2, l3, l4, l5] (.int x :: st) μ := us_iload_n dX11_change_71 rfl
theorem u84_72 {d : Nat} {R : gR} {μ : gM} {l0 l1 l2 l4 l5 : Value} {st : List Value} {x : Int32}  : gc_W (gc_S d) cX11_change 11 0 R 72 [l0, l1, l2, .int x, l4, l5] st μ ↔ gc_W (gc_S d) cX11_change 11 0 R 73 [l0, l1, l2, .int x, l4, l5] (.int x :: st) μ := us_iload_n dX11_change_72 rfl
theorem u84_73 {d : Nat} {R : gR} {μ : gM} {L : List Value} {st : List Value} {o : Nat} {i x : Int32} (hk : gc_kd o = 20) : gc_W (gc_S d) cX11_change 11 0 R 73 L (.int x :: .int i :: .ref o :: st) μ ↔ (vp_in i (gc_al o) ∧ gc_W (gc_S d) cX11_change 11 0 R 74 L st (gc_up μ o i.toNatClampNeg x)) := us_iast dX11_change_73 hk
theorem u84_74 {d : Nat} {R : gR} {μ : gM} {l0 l1 l2 l3 l4 : Value} {st : List Value} {x : Int32}  : gc_W (gc_S d) cX11_change 11 0 R 74 [l0, l1, l2, l3, l4, .int x] st μ ↔ gc_W (gc_S d) cX11_change 11 0 R 76 [l0, l1, l2, l3, l4, .int x] (.int x :: st) μ := us_iload dX11_change_74 rfl
theorem u84_76 {d : Nat} {R : gR} {μ : gM} {L : List Value} {v : Int32}  : gc_W (gc_S d) cX11_change 11 0 R 76 L [.int v] μ ↔ R (some (.int v)) μ := us_iret dX11_change_76 rfl
theorem s84 {d : Nat} {R : gR} {μ : gM} {o : Nat} {a0 a1 a2 : Int32} : gc_S (d + 1) 84 [.ref o, .int a0, .int a1, .int a2] μ R ↔ gc_W (gc_S d) cX11_change 11 0 R 0 [.ref o, .int a0, .int a1, .int a2, .retAddr 0, .retAddr 0] [] μ := us_call (gm_84) rfl rfl
theorem dX11_become_0 : decode cX11_become 0 = .ok (.aload_n 0, 1) := by decide +kernel
theorem dX11_become_1 : decode cX11_become 1 = .ok (.iload_n 1, 1) := by decide +kernel
theorem dX11_become_2 : decode cX11_become 2 = .ok (.invokevirtual 135, 3) := by decide +kernel
theorem dX11_become_5 : decode cX11_become 5 = .ok (.ifCond .eq 10, 3) := by decide +kernel
theorem dX11_become_8 : decode cX11_become 8 = .ok (.iload_n 2, 1) := by decide +kernel
theorem dX11_become_9 : decode cX11_become 9 = .ok (.invokestatic 117, 3) := by decide +kernel
theorem dX11_become_12 : decode cX11_become 12 = .ok (.ifCond .ne 9, 3) := by decide +kernel
theorem dX11_become_15 : decode cX11_become 15 = .ok (.aload_n 0, 1) := by decide +kernel
theorem dX11_become_16 : decode cX11_become 16 = .ok (.iconst 1, 1) := by decide +kernel
theorem dX11_become_17 : decode cX11_become 17 = .ok (.invokevirtual 88, 3) := by decide +kernel
theorem dX11_become_20 : decode cX11_become 20 = .ok (.ireturn, 1) := by decide +kernel
theorem dX11_become_21 : decode cX11_become 21 = .ok (.aload_n 0, 1) := by decide +kernel
theorem dX11_become_22 : decode cX11_become 22 = .ok (.getfield 38, 3) := by decide +kernel
theorem dX11_become_25 : decode cX11_become 25 = .ok (.getfield 123, 3) := by decide +kernel
theorem dX11_become_28 : decode cX11_become 28 = .ok (.iload_n 1, 1) := by decide +kernel
theorem dX11_become_29 : decode cX11_become 29 = .ok (.iaload, 1) := by decide +kernel
theorem dX11_become_30 : decode cX11_become 30 = .ok (.istore_n 3, 1) := by decide +kernel
theorem dX11_become_31 : decode cX11_become 31 = .ok (.aload_n 0, 1) := by decide +kernel
theorem dX11_become_32 : decode cX11_become 32 = .ok (.getfield 38, 3) := by decide +kernel
theorem dX11_become_35 : decode cX11_become 35 = .ok (.getfield 123, 3) := by decide +kernel
theorem dX11_become_38 : decode cX11_become 38 = .ok (.iload_n 1, 1) := by decide +kernel
theorem dX11_become_39 : decode cX11_become 39 = .ok (.iload_n 2, 1) := by decide +kernel
theorem dX11_become_40 : decode cX11_become 40 = .ok (.bipush 10, 2) := by decide +kernel
theorem dX11_become_42 : decode cX11_become 42 = .ok (.idiv, 1) := by decide +kernel
theorem dX11_become_43 : decode cX11_become 43 = .ok (.iastore, 1) := by decide +kernel
theorem dX11_become_44 : decode cX11_become 44 = .ok (.aload_n 0, 1) := by decide +kernel
theorem dX11_become_45 : decode cX11_become 45 = .ok (.getfield 38, 3) := by decide +kernel
theorem dX11_become_48 : decode cX11_become 48 = .ok (.getfield 126, 3) := by decide +kernel
theorem dX11_become_51 : decode cX11_become 51 = .ok (.iload_n 1, 1) := by decide +kernel
theorem dX11_become_52 : decode cX11_become 52 = .ok (.iload_n 2, 1) := by decide +kernel
theorem dX11_become_53 : decode cX11_become 53 = .ok (.bipush 10, 2) := by decide +kernel
theorem dX11_become_55 : decode cX11_become 55 = .ok (.irem, 1) := by decide +kernel
theorem dX11_become_56 : decode cX11_become 56 = .ok (.iastore, 1) := by decide +kernel
theorem dX11_become_57 : decode cX11_become 57 = .ok (.iload_n 3, 1) := by decide +kernel
theorem dX11_become_58 : decode cX11_become 58 = .ok (.ireturn, 1) := by decide +kernel
theorem u85_0 {d : Nat} {R : gR} {μ : gM} {l1 l2 l3 : Value} {st : List Value} {x : Nat}  : gc_W (gc_S d) cX11_become 11 0 R 0 [.ref x, l1, l2, l3] st μ ↔ gc_W (gc_S d) cX11_become 11 0 R 1 [.ref x, l1, l2, l3] (.ref x :: st) μ := us_aload_n dX11_become_0 rfl
theorem u85_1 {d : Nat} {R : gR} {μ : gM} {l0 l2 l3 : Value} {st : List Value} {x : Int32}  : gc_W (gc_S d) cX11_become 11 0 R 1 [l0, .int x, l2, l3] st μ ↔ gc_W (gc_S d) cX11_become 11 0 R 2 [l0, .int x, l2, l3] (.int x :: st) μ := us_iload_n dX11_become_1 rfl
theorem u85_2 {d : Nat} {R : gR} {μ : gM} {L : List Value} {o : Nat} {a0 : Int32} (hk : gc_kd o = 11) : gc_W (gc_S d) cX11_become 11 0 R 2 L [.int a0, .ref o] μ ↔ gc_S d 82 [.ref o, .int a0] μ (fun v μ' => gc_W (gc_S d) cX11_become 11 0 R 5 L (v.toList ++ []) μ') := us_virt dX11_become_2 gn_11_135 gc_11_135_11 hk rfl rfl rfl rfl rfl
theorem u85_5 {d : Nat} {R : gR} {μ : gM} {L : List Value} {st : List Value} {x : Int32}  : gc_W (gc_S d) cX11_become 11 0 R 5 L (.int x :: st) μ ↔ if x = 0 then gc_W (gc_S d) cX11_become 11 0 R 15 L st μ else gc_W (gc_S d) cX11_become 11 0 R 8 L st μ := us_ifeq dX11_become_5 rfl
theorem u85_8 {d : Nat} {R : gR} {μ : gM} {l0 l1 l3 : Value} {st : List Value} {x : Int32}  : gc_W (gc_S d) cX11_become 11 0 R 8 [l0, l1, .int x, l3] st μ ↔ gc_W (gc_S d) cX11_become 11 0 R 9 [l0, l1, .int x, l3] (.int x :: st) μ := us_iload_n dX11_become_8 rfl
theorem u85_9 {d : Nat} {R : gR} {μ : gM} {L : List Value}  {a0 : Int32}  : gc_W (gc_S d) cX11_become 11 0 R 9 L [.int a0] μ ↔ gc_S d 80 [.int a0] μ (fun v μ' => gc_W (gc_S d) cX11_become 11 0 R 12 L (v.toList ++ []) μ') := us_stat dX11_become_9 gs_11_117 gne_11_117 gn_11_117 gc_11_117_97 rfl rfl rfl rfl
theorem u85_12 {d : Nat} {R : gR} {μ : gM} {L : List Value} {st : List Value} {x : Int32}  : gc_W (gc_S d) cX11_become 11 0 R 12 L (.int x :: st) μ ↔ if x = 0 then gc_W (gc_S d) cX11_become 11 0 R 15 L st μ else gc_W (gc_S d) cX11_become 11 0 R 21 L st μ := us_ifne dX11_become_12 rfl
theorem u85_15 {d : Nat} {R : gR} {μ : gM} {l1 l2 l3 : Value} {st : List Value} {x : Nat}  : gc_W (gc_S d) cX11_become 11 0 R 15 [.ref x, l1, l2, l3] st μ ↔ gc_W (gc_S d) cX11_become 11 0 R 16 [.ref x, l1, l2, l3] (.ref x :: st) μ := us_aload_n dX11_become_15 rfl
theorem u85_16 {d : Nat} {R : gR} {μ : gM} {L : List Value} {st : List Value}   : gc_W (gc_S d) cX11_become 11 0 R 16 L st μ ↔ gc_W (gc_S d) cX11_become 11 0 R 17 L (.int 1 :: st) μ := us_iconst dX11_become_16 ci_iconst_1
theorem u85_17 {d : Nat} {R : gR} {μ : gM} {L : List Value} {o : Nat} {a0 : Int32} (hk : gc_kd o = 11) : gc_W (gc_S d) cX11_become 11 0 R 17 L [.int a0, .ref o] μ ↔ gc_S d 75 [.ref o, .int a0] μ (fun v μ' => gc_W (gc_S d) cX11_become 11 0 R 20 L (v.toList ++ []) μ') := us_virt dX11_become_17 gn_11_88 gc_11_88_11 hk rfl rfl rfl rfl rfl
theorem u85_20 {d : Nat} {R : gR} {μ : gM} {L : List Value} {v : Int32}  : gc_W (gc_S d) cX11_become 11 0 R 20 L [.int v] μ ↔ R (some (.int v)) μ := us_iret dX11_become_20 rfl
theorem u85_21 {d : Nat} {R : gR} {μ : gM} {l1 l2 l3 : Value} {st : List Value} {x : Nat}  : gc_W (gc_S d) cX11_become 11 0 R 21 [.ref x, l1, l2, l3] st μ ↔ gc_W (gc_S d) cX11_become 11 0 R 22 [.ref x, l1, l2, l3] (.ref x :: st) μ := us_aload_n dX11_become_21 rfl
theorem u85_22 {d : Nat} {R : gR} {μ : gM} {L : List Value} {st : List Value} {o : Nat} (hk : gc_kd o = 11) : gc_W (gc_S d) cX11_become 11 0 R 22 L (.ref o :: st) μ ↔ gc_W (gc_S d) cX11_become 11 0 R 25 L (gc_fv o 0 μ :: st) μ := us_getf dX11_become_22 gf_11_38 hk
theorem u85_25 {d : Nat} {R : gR} {μ : gM} {L : List Value} {st : List Value} {o : Nat} (hk : gc_kd o = 0) : gc_W (gc_S d) cX11_become 11 0 R 25 L (.ref o :: st) μ ↔ gc_W (gc_S d) cX11_become 11 0 R 28 L (gc_fv o 5 μ :: st) μ := us_getf dX11_become_25 gf_11_123 hk
theorem u85_28 {d : Nat} {R : gR} {μ : gM} {l0 l2 l3 : Value} {st : List Value} {x : Int32}  : gc_W (gc_S d) cX11_become 11 0 R 28 [l0, .int x, l2, l3] st μ ↔ gc_W (gc_S d) cX11_become 11 0 R 29 [l0, .int x, l2, l3] (.int x :: st) μ := us_iload_n dX11_become_28 rfl
theorem u85_29 {d : Nat} {R : gR} {μ : gM} {L : List Value} {st : List Value} {o : Nat} {i : Int32} (hk : gc_kd o = 20) : gc_W (gc_S d) cX11_become 11 0 R 29 L (.int i :: .ref o :: st) μ ↔ (vp_in i (gc_al o) ∧ gc_W (gc_S d) cX11_become 11 0 R 30 L (.int (μ o i.toNatClampNeg) :: st) μ) := us_iald dX11_become_29 hk
theorem u85_30 {d : Nat} {R : gR} {μ : gM} {l0 l1 l2 l3 : Value} {st : List Value} {x : Int32} (hs : gc_sk l3 = true) : gc_W (gc_S d) cX11_become 11 0 R 30 [l0, l1, l2, l3] (.int x :: st) μ ↔ gc_W (gc_S d) cX11_become 11 0 R 31 [l0, l1, l2, .int x] st μ := us_istore_n dX11_become_30 rfl hs
theorem u85_31 {d : Nat} {R : gR} {μ : gM} {l1 l2 l3 : Value} {st : List Value} {x : Nat}  : gc_W (gc_S d) cX11_become 11 0 R 31 [.ref x, l1, l2, l3] st μ ↔ gc_W (gc_S d) cX11_become 11 0 R 32 [.ref x, l1, l2, l3] (.ref x :: st) μ := us_aload_n dX11_become_31 rfl
theorem u85_32 {d : Nat} {R : gR} {μ : gM} {L : List Value} {st : List Value} {o : Nat} (hk : gc_kd o = 11) : gc_W (gc_S d) cX11_become 11 0 R 32 L (.ref o :: st) μ ↔ gc_W (gc_S d) cX11_become 11 0 R 35 L (gc_fv o 0 μ :: st) μ := us_getf dX11_become_32 gf_11_38 hk
theorem u85_35 {d : Nat} {R : gR} {μ : gM} {L : List Value} {st : List Value} {o : Nat} (hk : gc_kd o = 0) : gc_W (gc_S d) cX11_become 11 0 R 35 L (.ref o :: st) μ ↔ gc_W (gc_S d) cX11_become 11 0 R 38 L (gc_fv o 5 μ :: st) μ := us_getf dX11_become_35 gf_11_123 hk
theorem u85_38 {d : Nat} {R : gR} {μ : gM} {l0 l2 l3 : Value} {st : List Value} {x : Int32}  : gc_W (gc_S d) cX11_become 11 0 R 38 [l0, .int x, l2, l3] st μ ↔ gc_W (gc_S d) cX11_become 11 0 R 39 [l0, .int x, l2, l3] (.int x :: st) μ := us_iload_n dX11_become_38 rfl
theorem u85_39 {d : Nat} {R : gR} {μ : gM} {l0 l1 l3 : Value} {st : List Value} {x : Int32}  : gc_W (gc_S d) cX11_become 11 0 R 39 [l0, l1, .int x, l3] st μ ↔ gc_W (gc_S d) cX11_become 11 0 R 40 [l0, l1, .int x, l3] (.int x :: st) μ := us_iload_n dX11_become_39 rfl
theorem u85_40 {d : Nat} {R : gR} {μ : gM} {L : List Value} {st : List Value}   : gc_W (gc_S d) cX11_become 11 0 R 40 L st μ ↔ gc_W (gc_S d) cX11_become 11 0 R 42 L (.int 10 :: st) μ := us_bipush dX11_become_40 ci_bipush_10
theorem u85_42 {d : Nat} {R : gR} {μ : gM} {L : List Value} {st : List Value} {x y : Int32}  : gc_W (gc_S d) cX11_become 11 0 R 42 L (.int y :: .int x :: st) μ ↔ (¬ y = 0 ∧ gc_W (gc_S d) cX11_become 11 0 R 43 L (.int (x / y) :: st) μ) := us_idiv dX11_become_42
theorem u85_43 {d : Nat} {R : gR} {μ : gM} {L : List Value} {st : List Value} {o : Nat} {i x : Int32} (hk : gc_kd o = 20) : gc_W (gc_S d) cX11_become 11 0 R 43 L (.int x :: .int i :: .ref o :: st) μ ↔ (vp_in i (gc_al o) ∧ gc_W (gc_S d) cX11_become 11 0 R 44 L st (gc_up μ o i.toNatClampNeg x)) := us_iast dX11_become_43 hk
theorem u85_44 {d : Nat} {R : gR} {μ : gM} {l1 l2 l3 : Value} {st : List Value} {x : Nat}  : gc_W (gc_S d) cX11_become 11 0 R 44 [.ref x, l1, l2, l3] st μ ↔ gc_W (gc_S d) cX11_become 11 0 R 45 [.ref x, l1, l2, l3] (.ref x :: st) μ := us_aload_n dX11_become_44 rfl
theorem u85_45 {d : Nat} {R : gR} {μ : gM} {L : List Value} {st : List Value} {o : Nat} (hk : gc_kd o = 11) : gc_W (gc_S d) cX11_become 11 0 R 45 L (.ref o :: st) μ ↔ gc_W (gc_S d) cX11_become 11 0 R 48 L (gc_fv o 0 μ :: st) μ := us_getf dX11_become_45 gf_11_38 hk
theorem u85_48 {d : Nat} {R : gR} {μ : gM} {L : List Value} {st : List Value} {o : Nat} (hk : gc_kd o = 0) : gc_W (gc_S d) cX11_become 11 0 R 48 L (.ref o :: st) μ ↔ gc_W (gc_S d) cX11_become 11 0 R 51 L (gc_fv o 6 μ :: st) μ := us_getf dX11_become_48 gf_11_126 hk
theorem u85_51 {d : Nat} {R : gR} {μ : gM} {l0 l2 l3 : Value} {st : List Value} {x : Int32}  : gc_W (gc_S d) cX11_become 11 0 R 51 [l0, .int x, l2, l3] st μ ↔ gc_W (gc_S d) cX11_become 11 0 R 52 [l0, .int x, l2, l3] (.int x :: st) μ := us_iload_n dX11_become_51 rfl
theorem u85_52 {d : Nat} {R : gR} {μ : gM} {l0 l1 l3 : Value} {st : List Value} {x : Int32}  : gc_W (gc_S d) cX11_become 11 0 R 52 [l0, l1, .int x, l3] st μ ↔ gc_W (gc_S d) cX11_become 11 0 R 53 [l0, l1, .int x, l3] (.int x :: st) μ := us_iload_n dX11_become_52 rfl
theorem u85_53 {d : Nat} {R : gR} {μ : gM} {L : List Value} {st : List Value}   : gc_W (gc_S d) cX11_become 11 0 R 53 L st μ ↔ gc_W (gc_S d) cX11_become 11 0 R 55 L (.int 10 :: st) μ := us_bipush dX11_become_53 ci_bipush_10
theorem u85_55 {d : Nat} {R : gR} {μ : gM} {L : List Value} {st : List Value} {x y : Int32}  : gc_W (gc_S d) cX11_become 11 0 R 55 L (.int y :: .int x :: st) μ ↔ (¬ y = 0 ∧ gc_W (gc_S d) cX11_become 11 0 R 56 L (.int (x - x / y * y) :: st) μ) := us_irem dX11_become_55
theorem u85_56 {d : Nat} {R : gR} {μ : gM} {L : List Value} {st : List Value} {o : Nat} {i x : Int32} (hk : gc_kd o = 20) : gc_W (gc_S d) cX11_become 11 0 R 56 L (.int x :: .int i :: .ref o :: st) μ ↔ (vp_in i (gc_al o) ∧ gc_W (gc_S d) cX11_become 11 0 R 57 L st (gc_up μ o i.toNatClampNeg x)) := us_iast dX11_become_56 hk
theorem u85_57 {d : Nat} {R : gR} {μ : gM} {l0 l1 l2 : Value} {st : List Value} {x : Int32}  : gc_W (gc_S d) cX11_become 11 0 R 57 [l0, l1, l2, .int x] st μ ↔ gc_W (gc_S d) cX11_become 11 0 R 58 [l0, l1, l2, .int x] (.int x :: st) μ := us_iload_n dX11_become_57 rfl
theorem u85_58 {d : Nat} {R : gR} {μ : gM} {L : List Value} {v : Int32}  : gc_W (gc_S d) cX11_become 11 0 R 58 L [.int v] μ ↔ R (some (.int v)) μ := us_iret dX11_become_58 rfl
theorem s85 {d : Nat} {R : gR} {μ : gM} {o : Nat} {a0 a1 : Int32} : gc_S (d + 1) 85 [.ref o, .int a0, .int a1] μ R ↔ gc_W (gc_S d) cX11_become 11 0 R 0 [.ref o, .int a0, .int a1, .retAddr 0] [] μ := us_call (gm_85) rfl rfl
theorem dX11_isUnder_0 : decode cX11_isUnder 0 = .ok (.iload_n 0, 1) := by decide +kernel
theorem dX11_isUnder_1 : decode cX11_isUnder 1 = .ok (.istore_n 2, 1) := by decide +kernel
theorem dX11_isUnder_2 : decode cX11_isUnder 2 = .ok (.iconst 0, 1) := by decide +kernel
theorem dX11_isUnder_3 : decode cX11_isUnder 3 = .ok (.istore_n 3, 1) := by decide +kernel
theorem dX11_isUnder_4 : decode cX11_isUnder 4 = .ok (.iload_n 3, 1) := by decide +kernel
theorem dX11_isUnder_5 : decode cX11_isUnder 5 = .ok (.bipush 7, 2) := by decide +kernel
theorem dX11_isUnder_7 : decode cX11_isUnder 7 = .ok (.if_icmp .ge 26, 3) := by decide +kernel
theorem dX11_isUnder_10 : decode cX11_isUnder 10 = .ok (.iload_n 2, 1) := by decide +kernel
theorem dX11_isUnder_11 : decode cX11_isUnder 11 = .ok (.ifCond .lt 22, 3) := by decide +kernel
theorem dX11_isUnder_14 : decode cX11_isUnder 14 = .ok (.iload_n 2, 1) := by decide +kernel
theorem dX11_isUnder_15 : decode cX11_isUnder 15 = .ok (.iload_n 1, 1) := by decide +kernel
theorem dX11_isUnder_16 : decode cX11_isUnder 16 = .ok (.if_icmp .ne 5, 3) := by decide +kernel
theorem dX11_isUnder_19 : decode cX11_isUnder 19 = .ok (.iconst 1, 1) := by decide +kernel
theorem dX11_isUnder_20 : decode cX11_isUnder 20 = .ok (.ireturn, 1) := by decide +kernel
theorem dX11_isUnder_21 : decode cX11_isUnder 21 = .ok (.getstatic 310, 3) := by decide +kernel
theorem dX11_isUnder_24 : decode cX11_isUnder 24 = .ok (.iload_n 2, 1) := by decide +kernel
theorem dX11_isUnder_25 : decode cX11_isUnder 25 = .ok (.iaload, 1) := by decide +kernel
theorem dX11_isUnder_26 : decode cX11_isUnder 26 = .ok (.istore_n 2, 1) := by decide +kernel
theorem dX11_isUnder_27 : decode cX11_isUnder 27 = .ok (.iinc 3 1, 3) := by decide +kernel
theorem dX11_isUnder_30 : decode cX11_isUnder 30 = .ok (.goto (-26), 3) := by decide +kernel
theorem dX11_isUnder_33 : decode cX11_isUnder 33 = .ok (.iconst 0, 1) := by decide +kernel
theorem dX11_isUnder_34 : decode cX11_isUnder 34 = .ok (.ireturn, 1) := by decide +kernel
theorem u86_0 {d : Nat} {R : gR} {μ : gM} {l1 l2 l3 : Value} {st : List Value} {x : Int32}  : gc_W (gc_S d) cX11_isUnder 11 1 R 0 [.int x, l1, l2, l3] st μ ↔ gc_W (gc_S d) cX11_isUnder 11 1 R 1 [.int x, l1, l2, l3] (.int x :: st) μ := us_iload_n dX11_isUnder_0 rfl
theorem u86_1 {d : Nat} {R : gR} {μ : gM} {l0 l1 l2 l3 : Value} {st : List Value} {x : Int32} (hs : gc_sk l2 = true) : gc_W (gc_S d) cX11_isUnder 11 1 R 1 [l0, l1, l2, l3] (.int x :: st) μ ↔ gc_W (gc_S d) cX11_isUnder 11 1 R 2 [l0, l1, .int x, l3] st μ := us_istore_n dX11_isUnder_1 rfl hs
theorem u86_2 {d : Nat} {R : gR} {μ : gM} {L : List Value} {st : List Value}   : gc_W (gc_S d) cX11_isUnder 11 1 R 2 L st μ ↔ gc_W (gc_S d) cX11_isUnder 11 1 R 3 L (.int 0 :: st) μ := us_iconst dX11_isUnder_2 ci_iconst_0
theorem u86_3 {d : Nat} {R : gR} {μ : gM} {l0 l1 l2 l3 : Value} {st : List Value} {x : Int32} (hs : gc_sk l3 = true) : gc_W (gc_S d) cX11_isUnder 11 1 R 3 [l0, l1, l2, l3] (.int x :: st) μ ↔ gc_W (gc_S d) cX11_isUnder 11 1 R 4 [l0, l1, l2, .int x] st μ := us_istore_n dX11_isUnder_3 rfl hs
theorem u86_4 {d : Nat} {R : gR} {μ : gM} {l0 l1 l2 : Value} {st : List Value} {x : Int32}  : gc_W (gc_S d) cX11_isUnder 11 1 R 4 [l0, l1, l2, .int x] st μ ↔ gc_W (gc_S d) cX11_isUnder 11 1 R 5 [l0, l1, l2, .int x] (.int x :: st) μ := us_iload_n dX11_isUnder_4 rfl
theorem u86_5 {d : Nat} {R : gR} {μ : gM} {L : List Value} {st : List Value}   : gc_W (gc_S d) cX11_isUnder 11 1 R 5 L st μ ↔ gc_W (gc_S d) cX11_isUnder 11 1 R 7 L (.int 7 :: st) μ := us_bipush dX11_isUnder_5 ci_bipush_7
theorem u86_7 {d : Nat} {R : gR} {μ : gM} {L : List Value} {st : List Value} {x y : Int32}  : gc_W (gc_S d) cX11_isUnder 11 1 R 7 L (.int y :: .int x :: st) μ ↔ if y ≤ x then gc_W (gc_S d) cX11_isUnder 11 1 R 33 L st μ else gc_W (gc_S d) cX11_isUnder 11 1 R 10 L st μ := us_icge dX11_isUnder_7 rfl
theorem u86_10 {d : Nat} {R : gR} {μ : gM} {l0 l1 l3 : Value} {st : List Value} {x : Int32}  : gc_W (gc_S d) cX11_isUnder 11 1 R 10 [l0, l1, .int x, l3] st μ ↔ gc_W (gc_S d) cX11_isUnder 11 1 R 11 [l0, l1, .int x, l3] (.int x :: st) μ := us_iload_n dX11_isUnder_10 rfl
theorem u86_11 {d : Nat} {R : gR} {μ : gM} {L : List Value} {st : List Value} {x : Int32}  : gc_W (gc_S d) cX11_isUnder 11 1 R 11 L (.int x :: st) μ ↔ if x < 0 then gc_W (gc_S d) cX11_isUnder 11 1 R 33 L st μ else gc_W (gc_S d) cX11_isUnder 11 1 R 14 L st μ := us_iflt dX11_isUnder_11 rfl
theorem u86_14 {d : Nat} {R : gR} {μ : gM} {l0 l1 l3 : Value} {st : List Value} {x : Int32}  : gc_W (gc_S d) cX11_isUnder 11 1 R 14 [l0, l1, .int x, l3] st μ ↔ gc_W (gc_S d) cX11_isUnder 11 1 R 15 [l0, l1, .int x, l3] (.int x :: st) μ := us_iload_n dX11_isUnder_14 rfl
theorem u86_15 {d : Nat} {R : gR} {μ : gM} {l0 l2 l3 : Value} {st : List Value} {x : Int32}  : gc_W (gc_S d) cX11_isUnder 11 1 R 15 [l0, .int x, l2, l3] st μ ↔ gc_W (gc_S d) cX11_isUnder 11 1 R 16 [l0, .int x, l2, l3] (.int x :: st) μ := us_iload_n dX11_isUnder_15 rfl
theorem u86_16 {d : Nat} {R : gR} {μ : gM} {L : List Value} {st : List Value} {x y : Int32}  : gc_W (gc_S d) cX11_isUnder 11 1 R 16 L (.int y :: .int x :: st) μ ↔ if x = y then gc_W (gc_S d) cX11_isUnder 11 1 R 19 L st μ else gc_W (gc_S d) cX11_isUnder 11 1 R 21 L st μ := us_icne dX11_isUnder_16 rfl
theorem u86_19 {d : Nat} {R : gR} {μ : gM} {L : List Value} {st : List Value}   : gc_W (gc_S d) cX11_isUnder 11 1 R 19 L st μ ↔ gc_W (gc_S d) cX11_isUnder 11 1 R 20 L (.int 1 :: st) μ := us_iconst dX11_isUnder_19 ci_iconst_1
theorem u86_20 {d : Nat} {R : gR} {μ : gM} {L : List Value} {v : Int32}  : gc_W (gc_S d) cX11_isUnder 11 1 R 20 L [.int v] μ ↔ ((v = 0 ∨ v = 1) ∧ R (some (.int v)) μ) := us_zret dX11_isUnder_20 rfl
theorem u86_21 {d : Nat} {R : gR} {μ : gM} {L : List Value} {st : List Value}   : gc_W (gc_S d) cX11_isUnder 11 1 R 21 L st μ ↔ gc_W (gc_S d) cX11_isUnder 11 1 R 24 L (.ref 108 :: st) μ := us_getst dX11_isUnder_21 (by decide +kernel)
theorem u86_24 {d : Nat} {R : gR} {μ : gM} {l0 l1 l3 : Value} {st : List Value} {x : Int32}  : gc_W (gc_S d) cX11_isUnder 11 1 R 24 [l0, l1, .int x, l3] st μ ↔ gc_W (gc_S d) cX11_isUnder 11 1 R 25 [l0, l1, .int x, l3] (.int x :: st) μ := us_iload_n dX11_isUnder_24 rfl
theorem u86_25 {d : Nat} {R : gR} {μ : gM} {L : List Value} {st : List Value} {o : Nat} {i : Int32} (hk : gc_kd o = 30) : gc_W (gc_S d) cX11_isUnder 11 1 R 25 L (.int i :: .ref o :: st) μ ↔ (vp_in i (gc_al o) ∧ gc_W (gc_S d) cX11_isUnder 11 1 R 26 L (.int (gc_ro o i.toNatClampNeg) :: st) μ) := us_iald0 dX11_isUnder_25 hk
theorem u86_26 {d : Nat} {R : gR} {μ : gM} {l0 l1 l2 l3 : Value} {st : List Value} {x : Int32} (hs : gc_sk l2 = true) : gc_W (gc_S d) cX11_isUnder 11 1 R 26 [l0, l1, l2, l3] (.int x :: st) μ ↔ gc_W (gc_S d) cX11_isUnder 11 1 R 27 [l0, l1, .int x, l3] st μ := us_istore_n dX11_isUnder_26 rfl hs
theorem u86_27 {d : Nat} {R : gR} {μ : gM} {l0 l1 l2 : Value} {st : List Value} {x : Int32}  : gc_W (gc_S d) cX11_isUnder 11 1 R 27 [l0, l1, l2, .int x] st μ ↔ gc_W (gc_S d) cX11_isUnder 11 1 R 30 [l0, l1, l2, .int (x + 1)] st μ := us_iinc dX11_isUnder_27 rfl ci_iinc_1
theorem u86_30 {d : Nat} {R : gR} {μ : gM} {L : List Value} {st : List Value}  : gc_W (gc_S d) cX11_isUnder 11 1 R 30 L st μ ↔ gc_W (gc_S d) cX11_isUnder 11 1 R 4 L st μ := us_goto dX11_isUnder_30 rfl
theorem u86_33 {d : Nat} {R : gR} {μ : gM} {L : List Value} {st : List Value}   : gc_W (gc_S d) cX11_isUnder 11 1 R 33 L st μ ↔ gc_W (gc_S d) cX11_isUnder 11 1 R 34 L (.int 0 :: st) μ := us_iconst dX11_isUnder_33 ci_iconst_0
theorem u86_34 {d : Nat} {R : gR} {μ : gM} {L : List Value} {v : Int32}  : gc_W (gc_S d) cX11_isUnder 11 1 R 34 L [.int v] μ ↔ ((v = 0 ∨ v = 1) ∧ R (some (.int v)) μ) := us_zret dX11_isUnder_34 rfl
theorem s86 {d : Nat} {R : gR} {μ : gM} {a0 a1 : Int32} : gc_S (d + 1) 86 [.int a0, .int a1] μ R ↔ gc_W (gc_S d) cX11_isUnder 11 1 R 0 [.int a0, .int a1, .retAddr 0, .retAddr 0] [] μ := us_call (gm_86) rfl rfl
theorem dX11_as_0 : decode cX11_as 0 = .ok (.aload_n 0, 1) := by decide +kernel
theorem dX11_as_1 : decode cX11_as 1 = .ok (.iload_n 1, 1) := by decide +kernel
theorem dX11_as_2 : decode cX11_as 2 = .ok (.invokevirtual 135, 3) := by decide +kernel
theorem dX11_as_5 : decode cX11_as 5 = .ok (.ifCond .eq 12, 3) := by decide +kernel
theorem dX11_as_8 : decode cX11_as 8 = .ok (.bipush 6, 2) := by decide +kernel
theorem dX11_as_10 : decode cX11_as 10 = .ok (.iload_n 2, 1) := by decide +kernel
theorem dX11_as_11 : decode cX11_as 11 = .ok (.invokestatic 84, 3) := by decide +kernel
theorem dX11_as_14 : decode cX11_as 14 = .ok (.ifCond .ne 9, 3) := by decide +kernel
theorem dX11_as_17 : decode cX11_as 17 = .ok (.aload_n 0, 1) := by decide +kernel
theorem dX11_as_18 : decode cX11_as 18 = .ok (.iconst 1, 1) := by decide +kernel
theorem dX11_as_19 : decode cX11_as 19 = .ok (.invokevirtual 88, 3) := by decide +kernel
theorem dX11_as_22 : decode cX11_as 22 = .ok (.ireturn, 1) := by decide +kernel
theorem dX11_as_23 : decode cX11_as 23 = .ok (.aload_n 0, 1) := by decide +kernel
theorem dX11_as_24 : decode cX11_as 24 = .ok (.getfield 38, 3) := by decide +kernel
theorem dX11_as_27 : decode cX11_as 27 = .ok (.getfield 123, 3) := by decide +kernel
theorem dX11_as_30 : decode cX11_as 30 = .ok (.iload_n 1, 1) := by decide +kernel
theorem dX11_as_31 : decode cX11_as 31 = .ok (.iaload, 1) := by decide +kernel
theorem dX11_as_32 : decode cX11_as 32 = .ok (.iload_n 2, 1) := by decide +kernel
theorem dX11_as_33 : decode cX11_as 33 = .ok (.invokestatic 155, 3) := by decide +kernel
theorem dX11_as_36 : decode cX11_as 36 = .ok (.ifCond .eq 15, 3) := by decide +kernel
theorem dX11_as_39 : decode cX11_as 39 = .ok (.aload_n 0, 1) := by decide +kernel
theorem dX11_as_40 : decode cX11_as 40 = .ok (.getfield 38, 3) := by decide +kernel
theorem dX11_as_43 : decode cX11_as 43 = .ok (.getfield 126, 3) := by decide +kernel
theorem dX11_as_46 : decode cX11_as 46 = .ok (.iload_n 1, 1) := by decide +kernel
theorem dX11_as_47 : decode cX11_as 47 = .ok (.iaload, 1) := by decide +kernel
theorem dX11_as_48 : decode cX11_as 48 = .ok (.goto 8, 3) := by decide +kernel
theorem dX11_as_51 : decode cX11_as 51 = .ok (.aload_n 0, 1) := by decide +kernel
theorem dX11_as_52 : decode cX11_as 52 = .ok (.iconst 5, 1) := by decide +kernel
theorem dX11_as_53 : decode cX11_as 53 = .ok (.invokevirtual 88, 3) := by decide +kernel
theorem dX11_as_56 : decode cX11_as 56 = .ok (.ireturn, 1) := by decide +kernel
theorem u87_0 {d : Nat} {R : gR} {μ : gM} {l1 l2 : Value} {st : List Value} {x : Nat}  : gc_W (gc_S d) cX11_as 11 0 R 0 [.ref x, l1, l2] st μ ↔ gc_W (gc_S d) cX11_as 11 0 R 1 [.ref x, l1, l2] (.ref x :: st) μ := us_aload_n dX11_as_0 rfl
theorem u87_1 {d : Nat} {R : gR} {μ : gM} {l0 l2 : Value} {st : List Value} {x : Int32}  : gc_W (gc_S d) cX11_as 11 0 R 1 [l0, .int x, l2] st μ ↔ gc_W (gc_S d) cX11_as 11 0 R 2 [l0, .int x, l2] (.int x :: st) μ := us_iload_n dX11_as_1 rfl
theorem u87_2 {d : Nat} {R : gR} {μ : gM} {L : List Value} {o : Nat} {a0 : Int32} (hk : gc_kd o = 11) : gc_W (gc_S d) cX11_as 11 0 R 2 L [.int a0, .ref o] μ ↔ gc_S d 82 [.ref o, .int a0] μ (fun v μ' => gc_W (gc_S d) cX11_as 11 0 R 5 L (v.toList ++ []) μ') := us_virt dX11_as_2 gn_11_135 gc_11_135_11 hk rfl rfl rfl rfl rfl
theorem u87_5 {d : Nat} {R : gR} {μ : gM} {L : List Value} {st : List Value} {x : Int32}  : gc_W (gc_S d) cX11_as 11 0 R 5 L (.int x :: st) μ ↔ if x = 0 then gc_W (gc_S d) cX11_as 11 0 R 17 L st μ else gc_W (gc_S d) cX11_as 11 0 R 8 L st μ := us_ifeq dX11_as_5 rfl
theorem u87_8 {d : Nat} {R : gR} {μ : gM} {L : List Value} {st : List Value}   : gc_W (gc_S d) cX11_as 11 0 R 8 L st μ ↔ gc_W (gc_S d) cX11_as 11 0 R 10 L (.int 6 :: st) μ := us_bipush dX11_as_8 ci_bipush_6
theorem u87_10 {d : Nat} {R : gR} {μ : gM} {l0 l1 : Value} {st : List Value} {x : Int32}  : gc_W (gc_S d) cX11_as 11 0 R 10 [l0, l1, .int x] st μ ↔ gc_W (gc_S d) cX11_as 11 0 R 11 [l0, l1, .int x] (.int x :: st) μ := us_iload_n dX11_as_10 rfl
theorem u87_11 {d : Nat} {R : gR} {μ : gM} {L : List Value}  {a0 a1 : Int32}  : gc_W (gc_S d) cX11_as 11 0 R 11 L [.int a1, .int a0] μ ↔ gc_S d 73 [.int a0, .int a1] μ (fun v μ' => gc_W (gc_S d) cX11_as 11 0 R 14 L (v.toList ++ []) μ') := us_stat dX11_as_11 gs_11_84 gne_11_84 gn_11_84 gc_11_84_97 rfl rfl rfl rfl
theorem u87_14 {d : Nat} {R : gR} {μ : gM} {L : List Value} {st : List Value} {x : Int32}  : gc_W (gc_S d) cX11_as 11 0 R 14 L (.int x :: st) μ ↔ if x = 0 then gc_W (gc_S d) cX11_as 11 0 R 17 L st μ else gc_W (gc_S d) cX11_as 11 0 R 23 L st μ := us_ifne dX11_as_14 rfl
theorem u87_17 {d : Nat} {R : gR} {μ : gM} {l1 l2 : Value} {st : List Value} {x : Nat}  : gc_W (gc_S d) cX11_as 11 0 R 17 [.ref x, l1, l2] st μ ↔ gc_W (gc_S d) cX11_as 11 0 R 18 [.ref x, l1, l2] (.ref x :: st) μ := us_aload_n dX11_as_17 rfl
theorem u87_18 {d : Nat} {R : gR} {μ : gM} {L : List Value} {st : List Value}   : gc_W (gc_S d) cX11_as 11 0 R 18 L st μ ↔ gc_W (gc_S d) cX11_as 11 0 R 19 L (.int 1 :: st) μ := us_iconst dX11_as_18 ci_iconst_1
theorem u87_19 {d : Nat} {R : gR} {μ : gM} {L : List Value} {o : Nat} {a0 : Int32} (hk : gc_kd o = 11) : gc_W (gc_S d) cX11_as 11 0 R 19 L [.int a0, .ref o] μ ↔ gc_S d 75 [.ref o, .int a0] μ (fun v μ' => gc_W (gc_S d) cX11_as 11 0 R 22 L (v.toList ++ []) μ') := us_virt dX11_as_19 gn_11_88 gc_11_88_11 hk rfl rfl rfl rfl rfl
theorem u87_22 {d : Nat} {R : gR} {μ : gM} {L : List Value} {v : Int32}  : gc_W (gc_S d) cX11_as 11 0 R 22 L [.int v] μ ↔ R (some (.int v)) μ := us_iret dX11_as_22 rfl
theorem u87_23 {d : Nat} {R : gR} {μ : gM} {l1 l2 : Value} {st : List Value} {x : Nat}  : gc_W (gc_S d) cX11_as 11 0 R 23 [.ref x, l1, l2] st μ ↔ gc_W (gc_S d) cX11_as 11 0 R 24 [.ref x, l1, l2] (.ref x :: st) μ := us_aload_n dX11_as_23 rfl
theorem u87_24 {d : Nat} {R : gR} {μ : gM} {L : List Value} {st : List Value} {o : Nat} (hk : gc_kd o = 11) : gc_W (gc_S d) cX11_as 11 0 R 24 L (.ref o :: st) μ ↔ gc_W (gc_S d) cX11_as 11 0 R 27 L (gc_fv o 0 μ :: st) μ := us_getf dX11_as_24 gf_11_38 hk
theorem u87_27 {d : Nat} {R : gR} {μ : gM} {L : List Value} {st : List Value} {o : Nat} (hk : gc_kd o = 0) : gc_W (gc_S d) cX11_as 11 0 R 27 L (.ref o :: st) μ ↔ gc_W (gc_S d) cX11_as 11 0 R 30 L (gc_fv o 5 μ :: st) μ := us_getf dX11_as_27 gf_11_123 hk
theorem u87_30 {d : Nat} {R : gR} {μ : gM} {l0 l2 : Value} {st : List Value} {x : Int32}  : gc_W (gc_S d) cX11_as 11 0 R 30 [l0, .int x, l2] st μ ↔ gc_W (gc_S d) cX11_as 11 0 R 31 [l0, .int x, l2] (.int x :: st) μ := us_iload_n dX11_as_30 rfl
theorem u87_31 {d : Nat} {R : gR} {μ : gM} {L : List Value} {st : List Value} {o : Nat} {i : Int32} (hk : gc_kd o = 20) : gc_W (gc_S d) cX11_as 11 0 R 31 L (.int i :: .ref o :: st) μ ↔ (vp_in i (gc_al o) ∧ gc_W (gc_S d) cX11_as 11 0 R 32 L (.int (μ o i.toNatClampNeg) :: st) μ) := us_iald dX11_as_31 hk
theorem u87_32 {d : Nat} {R : gR} {μ : gM} {l0 l1 : Value} {st : List Value} {x : Int32}  : gc_W (gc_S d) cX11_as 11 0 R 32 [l0, l1, .int x] st μ ↔ gc_W (gc_S d) cX11_as 11 0 R 33 [l0, l1, .int x] (.int x :: st) μ := us_iload_n dX11_as_32 rfl
theorem u87_33 {d : Nat} {R : gR} {μ : gM} {L : List Value}  {a0 a1 : Int32}  : gc_W (gc_S d) cX11_as 11 0 R 33 L [.int a1, .int a0] μ ↔ gc_S d 86 [.int a0, .int a1] μ (fun v μ' => gc_W (gc_S d) cX11_as 11 0 R 36 L (v.toList ++ []) μ') := us_stat dX11_as_33 gs_11_155 gne_11_155 gn_11_155 gc_11_155_97 rfl rfl rfl rfl
theorem u87_36 {d : Nat} {R : gR} {μ : gM} {L : List Value} {st : List Value} {x : Int32}  : gc_W (gc_S d) cX11_as 11 0 R 36 L (.int x :: st) μ ↔ if x = 0 then gc_W (gc_S d) cX11_as 11 0 R 51 L st μ else gc_W (gc_S d) cX11_as 11 0 R 39 L st μ := us_ifeq dX11_as_36 rfl
theorem u87_39 {d : Nat} {R : gR} {μ : gM} {l1 l2 : Value} {st : List Value} {x : Nat}  : gc_W (gc_S d) cX11_as 11 0 R 39 [.ref x, l1, l2] st μ ↔ gc_W (gc_S d) cX11_as 11 0 R 40 [.ref x, l1, l2] (.ref x :: st) μ := us_aload_n dX11_as_39 rfl
theorem u87_40 {d : Nat} {R : gR} {μ : gM} {L : List Value} {st : List Value} {o : Nat} (hk : gc_kd o = 11) : gc_W (gc_S d) cX11_as 11 0 R 40 L (.ref o :: st) μ ↔ gc_W (gc_S d) cX11_as 11 0 R 43 L (gc_fv o 0 μ :: st) μ := us_getf dX11_as_40 gf_11_38 hk
theorem u87_43 {d : Nat} {R : gR} {μ : gM} {L : List Value} {st : List Value} {o : Nat} (hk : gc_kd o = 0) : gc_W (gc_S d) cX11_as 11 0 R 43 L (.ref o :: st) μ ↔ gc_W (gc_S d) cX11_as 11 0 R 46 L (gc_fv o 6 μ :: st) μ := us_getf dX11_as_43 gf_11_126 hk
theorem u87_46 {d : Nat} {R : gR} {μ : gM} {l0 l2 : Value} {st : List Value} {x : Int32}  : gc_W (gc_S d) cX11_as 11 0 R 46 [l0, .int x, l2] st μ ↔ gc_W (gc_S d) cX11_as 11 0 R 47 [l0, .int x, l2] (.int x :: st) μ := us_iload_n dX11_as_46 rfl
theorem u87_47 {d : Nat} {R : gR} {μ : gM} {L : List Value} {st : List Value} {o : Nat} {i : Int32} (hk : gc_kd o = 20) : gc_W (gc_S d) cX11_as 11 0 R 47 L (.int i :: .ref o :: st) μ ↔ (vp_in i (gc_al o) ∧ gc_W (gc_S d) cX11_as 11 0 R 48 L (.int (μ o i.toNatClampNeg) :: st) μ) := us_iald dX11_as_47 hk
theorem u87_48 {d : Nat} {R : gR} {μ : gM} {L : List Value} {st : List Value}  : gc_W (gc_S d) cX11_as 11 0 R 48 L st μ ↔ gc_W (gc_S d) cX11_as 11 0 R 56 L st μ := us_goto dX11_as_48 rfl
theorem u87_51 {d : Nat} {R : gR} {μ : gM} {l1 l2 : Value} {st : List Value} {x : Nat}  : gc_W (gc_S d) cX11_as 11 0 R 51 [.ref x, l1, l2] st μ ↔ gc_W (gc_S d) cX11_as 11 0 R 52 [.ref x, l1, l2] (.ref x :: st) μ := us_aload_n dX11_as_51 rfl
theorem u87_52 {d : Nat} {R : gR} {μ : gM} {L : List Value} {st : List Value}   : gc_W (gc_S d) cX11_as 11 0 R 52 L st μ ↔ gc_W (gc_S d) cX11_as 11 0 R 53 L (.int 5 :: st) μ := us_iconst dX11_as_52 ci_iconst_5
theorem u87_53 {d : Nat} {R : gR} {μ : gM} {L : List Value} {o : Nat} {a0 : Int32} (hk : gc_kd o = 11) : gc_W (gc_S d) cX11_as 11 0 R 53 L [.int a0, .ref o] μ ↔ gc_S d 75 [.ref o, .int a0] μ (fun v μ' => gc_W (gc_S d) cX11_as 11 0 R 56 L (v.toList ++ []) μ') := us_virt dX11_as_53 gn_11_88 gc_11_88_11 hk rfl rfl rfl rfl rfl
theorem u87_56 {d : Nat} {R : gR} {μ : gM} {L : List Value} {v : Int32}  : gc_W (gc_S d) cX11_as 11 0 R 56 L [.int v] μ ↔ R (some (.int v)) μ := us_iret dX11_as_56 rfl
theorem s87 {d : Nat} {R : gR} {μ : gM} {o : Nat} {a0 a1 : Int32} : gc_S (d + 1) 87 [.ref o, .int a0, .int a1] μ R ↔ gc_W (gc_S d) cX11_as 11 0 R 0 [.ref o, .int a0, .int a1] [] μ := us_call (gm_87) rfl rfl
theorem dX11_feed_0 : decode cX11_feed 0 = .ok (.iload_n 3, 1) := by decide +kernel
theorem dX11_feed_1 : decode cX11_feed 1 = .ok (.iconst 1, 1) := by decide +kernel
theorem dX11_feed_2 : decode cX11_feed 2 = .ok (.if_icmp .lt 9, 3) := by decide +kernel
theorem dX11_feed_5 : decode cX11_feed 5 = .ok (.iload_n 3, 1) := by decide +kernel
theorem dX11_feed_6 : decode cX11_feed 6 = .ok (.bipush 8, 2) := by decide +kernel
theorem dX11_feed_8 : decode cX11_feed 8 = .ok (.if_icmp .le 9, 3) := by decide +kernel
theorem dX11_feed_11 : decode cX11_feed 11 = .ok (.aload_n 0, 1) := by decide +kernel
theorem dX11_feed_12 : decode cX11_feed 12 = .ok (.iconst 1, 1) := by decide +kernel
theorem dX11_feed_13 : decode cX11_feed 13 = .ok (.invokevirtual 88, 3) := by decide +kernel
theorem dX11_feed_16 : decode cX11_feed 16 = .ok (.ireturn, 1) := by decide +kernel
theorem dX11_feed_17 : decode cX11_feed 17 = .ok (.aload_n 0, 1) := by decide +kernel
theorem dX11_feed_18 : decode cX11_feed 18 = .ok (.getfield 38, 3) := by decide +kernel
theorem dX11_feed_21 : decode cX11_feed 21 = .ok (.getfield 158, 3) := by decide +kernel
theorem dX11_feed_24 : decode cX11_feed 24 = .ok (.getfield 161, 3) := by decide +kernel
theorem dX11_feed_27 : decode cX11_feed 27 = .ok (.iload_n 3, 1) := by decide +kernel
theorem dX11_feed_28 : decode cX11_feed 28 = .ok (.iadd, 1) := by decide +kernel
theorem dX11_feed_29 : decode cX11_feed 29 = .ok (.bipush 50, 2) := by decide +kernel
theorem dX11_feed_31 : decode cX11_feed 31 = .ok (.if_icmp .le 9, 3) := by decide +kernel
theorem dX11_feed_34 : decode cX11_feed 34 = .ok (.aload_n 0, 1) := by decide +kernel
theorem dX11_feed_35 : decode cX11_feed 35 = .ok (.iconst 4, 1) := by decide +kernel
theorem dX11_feed_36 : decode cX11_feed 36 = .ok (.invokevirtual 88, 3) := by decide +kernel
theorem dX11_feed_39 : decode cX11_feed 39 = .ok (.ireturn, 1) := by decide +kernel
theorem dX11_feed_40 : decode cX11_feed 40 = .ok (.iconst 0, 1) := by decide +kernel
theorem dX11_feed_41 : decode cX11_feed 41 = .ok (.istore 4, 2) := by decide +kernel
theorem dX11_feed_43 : decode cX11_feed 43 = .ok (.iload 4, 2) := by decide +kernel
theorem dX11_feed_45 : decode cX11_feed 45 = .ok (.iload_n 3, 1) := by decide +kernel
theorem dX11_feed_46 : decode cX11_feed 46 = .ok (.if_icmp .ge 31, 3) := by decide +kernel
theorem dX11_feed_49 : decode cX11_feed 49 = .ok (.aload_n 0, 1) := by decide +kernel
theorem dX11_feed_50 : decode cX11_feed 50 = .ok (.getfield 38, 3) := by decide +kernel
theorem dX11_feed_53 : decode cX11_feed 53 = .ok (.getfield 158, 3) := by decide +kernel
theorem dX11_feed_56 : decode cX11_feed 56 = .ok (.lload_n 1, 1) := by decide +kernel
theorem dX11_feed_57 : decode cX11_feed 57 = .ok (.bipush 8, 2) := by decide +kernel
theorem dX11_feed_59 : decode cX11_feed 59 = .ok (.iload 4, 2) := by decide +kernel
theorem dX11_feed_61 : decode cX11_feed 61 = .ok (.imul, 1) := by decide +kernel
theorem dX11_feed_62 : decode cX11_feed 62 = .ok (.lushr, 1) := by decide +kernel
theorem dX11_feed_63 : decode cX11_feed 63 = .ok (.l2i, 1) := by decide +kernel
theorem dX11_feed_64 : decode cX11_feed 64 = .ok (.sipush 255, 3) := by decide +kernel
theorem dX11_feed_67 : decode cX11_feed 67 = .ok (.iand, 1) := by decide +kernel
theorem dX11_feed_68 : decode cX11_feed 68 = .ok (.invokevirtual 164, 3) := by decide +kernel
theorem dX11_feed_71 : decode cX11_feed 71 = .ok (.iinc 4 1, 3) := by decide +kernel
theorem dX11_feed_74 : decode cX11_feed 74 = .ok (.goto (-31), 3) := by decide +kernel
theorem dX11_feed_77 : decode cX11_feed 77 = .ok (.aload_n 0, 1) := by decide +kernel
theorem dX11_feed_78 : decode cX11_feed 78 = .ok (.getfield 38, 3) := by decide +kernel
theorem dX11_feed_81 : decode cX11_feed 81 = .ok (.getfield 158, 3) := by decide +kernel
theorem dX11_feed_84 : decode cX11_feed 84 = .ok (.getfield 161, 3) := by decide +kernel
theorem dX11_feed_87 : decode cX11_feed 87 = .ok (.ireturn, 1) := by decide +kernel
theorem u88_0 {d : Nat} {R : gR} {μ : gM} {l0 l1 l2 l4 : Value} {st : List Value} {x : Int32}  : gc_W (gc_S d) cX11_feed 11 0 R 0 [l0, l1, l2, .int x, l4] st μ ↔ gc_W (gc_S d) cX11_feed 11 0 R 1 [l0, l1, l2, .int x, l4] (.int x :: st) μ := us_iload_n dX11_feed_0 rfl
theorem u88_1 {d : Nat} {R : gR} {μ : gM} {L : List Value} {st : List Value}   : gc_W (gc_S d) cX11_feed 11 0 R 1 L st μ ↔ gc_W (gc_S d) cX11_feed 11 0 R 2 L (.int 1 :: st) μ := us_iconst dX11_feed_1 ci_iconst_1
theorem u88_2 {d : Nat} {R : gR} {μ : gM} {L : List Value} {st : List Value} {x y : Int32}  : gc_W (gc_S d) cX11_feed 11 0 R 2 L (.int y :: .int x :: st) μ ↔ if x < y then gc_W (gc_S d) cX11_feed 11 0 R 11 L st μ else gc_W (gc_S d) cX11_feed 11 0 R 5 L st μ := us_iclt dX11_feed_2 rfl
theorem u88_5 {d : Nat} {R : gR} {μ : gM} {l0 l1 l2 l4 : Value} {st : List Value} {x : Int32}  : gc_W (gc_S d) cX11_feed 11 0 R 5 [l0, l1, l2, .int x, l4] st μ ↔ gc_W (gc_S d) cX11_feed 11 0 R 6 [l0, l1, l2, .int x, l4] (.int x :: st) μ := us_iload_n dX11_feed_5 rfl
theorem u88_6 {d : Nat} {R : gR} {μ : gM} {L : List Value} {st : List Value}   : gc_W (gc_S d) cX11_feed 11 0 R 6 L st μ ↔ gc_W (gc_S d) cX11_feed 11 0 R 8 L (.int 8 :: st) μ := us_bipush dX11_feed_6 ci_bipush_8
theorem u88_8 {d : Nat} {R : gR} {μ : gM} {L : List Value} {st : List Value} {x y : Int32}  : gc_W (gc_S d) cX11_feed 11 0 R 8 L (.int y :: .int x :: st) μ ↔ if x ≤ y then gc_W (gc_S d) cX11_feed 11 0 R 17 L st μ else gc_W (gc_S d) cX11_feed 11 0 R 11 L st μ := us_icle dX11_feed_8 rfl
theorem u88_11 {d : Nat} {R : gR} {μ : gM} {l1 l2 l3 l4 : Value} {st : List Value} {x : Nat}  : gc_W (gc_S d) cX11_feed 11 0 R 11 [.ref x, l1, l2, l3, l4] st μ ↔ gc_W (gc_S d) cX11_feed 11 0 R 12 [.ref x, l1, l2, l3, l4] (.ref x :: st) μ := us_aload_n dX11_feed_11 rfl
theorem u88_12 {d : Nat} {R : gR} {μ : gM} {L : List Value} {st : List Value}   : gc_W (gc_S d) cX11_feed 11 0 R 12 L st μ ↔ gc_W (gc_S d) cX11_feed 11 0 R 13 L (.int 1 :: st) μ := us_iconst dX11_feed_12 ci_iconst_1
theorem u88_13 {d : Nat} {R : gR} {μ : gM} {L : List Value} {o : Nat} {a0 : Int32} (hk : gc_kd o = 11) : gc_W (gc_S d) cX11_feed 11 0 R 13 L [.int a0, .ref o] μ ↔ gc_S d 75 [.ref o, .int a0] μ (fun v μ' => gc_W (gc_S d) cX11_feed 11 0 R 16 L (v.toList ++ []) μ') := us_virt dX11_feed_13 gn_11_88 gc_11_88_11 hk rfl rfl rfl rfl rfl
theorem u88_16 {d : Nat} {R : gR} {μ : gM} {L : List Value} {v : Int32}  : gc_W (gc_S d) cX11_feed 11 0 R 16 L [.int v] μ ↔ R (some (.int v)) μ := us_iret dX11_feed_16 rfl
theorem u88_17 {d : Nat} {R : gR} {μ : gM} {l1 l2 l3 l4 : Value} {st : List Value} {x : Nat}  : gc_W (gc_S d) cX11_feed 11 0 R 17 [.ref x, l1, l2, l3, l4] st μ ↔ gc_W (gc_S d) cX11_feed 11 0 R 18 [.ref x, l1, l2, l3, l4] (.ref x :: st) μ := us_aload_n dX11_feed_17 rfl
theorem u88_18 {d : Nat} {R : gR} {μ : gM} {L : List Value} {st : List Value} {o : Nat} (hk : gc_kd o = 11) : gc_W (gc_S d) cX11_feed 11 0 R 18 L (.ref o :: st) μ ↔ gc_W (gc_S d) cX11_feed 11 0 R 21 L (gc_fv o 0 μ :: st) μ := us_getf dX11_feed_18 gf_11_38 hk
theorem u88_21 {d : Nat} {R : gR} {μ : gM} {L : List Value} {st : List Value} {o : Nat} (hk : gc_kd o = 0) : gc_W (gc_S d) cX11_feed 11 0 R 21 L (.ref o :: st) μ ↔ gc_W (gc_S d) cX11_feed 11 0 R 24 L (gc_fv o 9 μ :: st) μ := us_getf dX11_feed_21 gf_11_158 hk
theorem u88_24 {d : Nat} {R : gR} {μ : gM} {L : List Value} {st : List Value} {o : Nat} (hk : gc_kd o = 7) : gc_W (gc_S d) cX11_feed 11 0 R 24 L (.ref o :: st) μ ↔ gc_W (gc_S d) cX11_feed 11 0 R 27 L (gc_fv o 1 μ :: st) μ := us_getf dX11_feed_24 gf_11_161 hk
theorem u88_27 {d : Nat} {R : gR} {μ : gM} {l0 l1 l2 l4 : Value} {st : List Value} {x : Int32}  : gc_W (gc_S d) cX11_feed 11 0 R 27 [l0, l1, l2, .int x, l4] st μ ↔ gc_W (gc_S d) cX11_feed 11 0 R 28 [l0, l1, l2, .int x, l4] (.int x :: st) μ := us_iload_n dX11_feed_27 rfl
theorem u88_28 {d : Nat} {R : gR} {μ : gM} {L : List Value} {st : List Value} {x y : Int32}  : gc_W (gc_S d) cX11_feed 11 0 R 28 L (.int y :: .int x :: st) μ ↔ gc_W (gc_S d) cX11_feed 11 0 R 29 L (.int (x + y) :: st) μ := us_iadd dX11_feed_28
theorem u88_29 {d : Nat} {R : gR} {μ : gM} {L : List Value} {st : List Value}   : gc_W (gc_S d) cX11_feed 11 0 R 29 L st μ ↔ gc_W (gc_S d) cX11_feed 11 0 R 31 L (.int 50 :: st) μ := us_bipush dX11_feed_29 ci_bipush_50
theorem u88_31 {d : Nat} {R : gR} {μ : gM} {L : List Value} {st : List Value} {x y : Int32}  : gc_W (gc_S d) cX11_feed 11 0 R 31 L (.int y :: .int x :: st) μ ↔ if x ≤ y then gc_W (gc_S d) cX11_feed 11 0 R 40 L st μ else gc_W (gc_S d) cX11_feed 11 0 R 34 L st μ := us_icle dX11_feed_31 rfl
theorem u88_34 {d : Nat} {R : gR} {μ : gM} {l1 l2 l3 l4 : Value} {st : List Value} {x : Nat}  : gc_W (gc_S d) cX11_feed 11 0 R 34 [.ref x, l1, l2, l3, l4] st μ ↔ gc_W (gc_S d) cX11_feed 11 0 R 35 [.ref x, l1, l2, l3, l4] (.ref x :: st) μ := us_aload_n dX11_feed_34 rfl
theorem u88_35 {d : Nat} {R : gR} {μ : gM} {L : List Value} {st : List Value}   : gc_W (gc_S d) cX11_feed 11 0 R 35 L st μ ↔ gc_W (gc_S d) cX11_feed 11 0 R 36 L (.int 4 :: st) μ := us_iconst dX11_feed_35 ci_iconst_4
theorem u88_36 {d : Nat} {R : gR} {μ : gM} {L : List Value} {o : Nat} {a0 : Int32} (hk : gc_kd o = 11) : gc_W (gc_S d) cX11_feed 11 0 R 36 L [.int a0, .ref o] μ ↔ gc_S d 75 [.ref o, .int a0] μ (fun v μ' => gc_W (gc_S d) cX11_feed 11 0 R 39 L (v.toList ++ []) μ') := us_virt dX11_feed_36 gn_11_88 gc_11_88_11 hk rfl rfl rfl rfl rfl
theorem u88_39 {d : Nat} {R : gR} {μ : gM} {L : List Value} {v : Int32}  : gc_W (gc_S d) cX11_feed 11 0 R 39 L [.int v] μ ↔ R (some (.int v)) μ := us_iret dX11_feed_39 rfl
theorem u88_40 {d : Nat} {R : gR} {μ : gM} {L : List Value} {st : List Value}   : gc_W (gc_S d) cX11_feed 11 0 R 40 L st μ ↔ gc_W (gc_S d) cX11_feed 11 0 R 41 L (.int 0 :: st) μ := us_iconst dX11_feed_40 ci_iconst_0
theorem u88_41 {d : Nat} {R : gR} {μ : gM} {l0 l1 l2 l3 l4 : Value} {st : List Value} {x : Int32} (hs : gc_sk l4 = true) : gc_W (gc_S d) cX11_feed 11 0 R 41 [l0, l1, l2, l3, l4] (.int x :: st) μ ↔ gc_W (gc_S d) cX11_feed 11 0 R 43 [l0, l1, l2, l3, .int x] st μ := us_istore dX11_feed_41 rfl hs
theorem u88_43 {d : Nat} {R : gR} {μ : gM} {l0 l1 l2 l3 : Value} {st : List Value} {x : Int32}  : gc_W (gc_S d) cX11_feed 11 0 R 43 [l0, l1, l2, l3, .int x] st μ ↔ gc_W (gc_S d) cX11_feed 11 0 R 45 [l0, l1, l2, l3, .int x] (.int x :: st) μ := us_iload dX11_feed_43 rfl
theorem u88_45 {d : Nat} {R : gR} {μ : gM} {l0 l1 l2 l4 : Value} {st : List Value} {x : Int32}  : gc_W (gc_S d) cX11_feed 11 0 R 45 [l0, l1, l2, .int x, l4] st μ ↔ gc_W (gc_S d) cX11_feed 11 0 R 46 [l0, l1, l2, .int x, l4] (.int x :: st) μ := us_iload_n dX11_feed_45 rfl
theorem u88_46 {d : Nat} {R : gR} {μ : gM} {L : List Value} {st : List Value} {x y : Int32}  : gc_W (gc_S d) cX11_feed 11 0 R 46 L (.int y :: .int x :: st) μ ↔ if y ≤ x then gc_W (gc_S d) cX11_feed 11 0 R 77 L st μ else gc_W (gc_S d) cX11_feed 11 0 R 49 L st μ := us_icge dX11_feed_46 rfl
theorem u88_49 {d : Nat} {R : gR} {μ : gM} {l1 l2 l3 l4 : Value} {st : List Value} {x : Nat}  : gc_W (gc_S d) cX11_feed 11 0 R 49 [.ref x, l1, l2, l3, l4] st μ ↔ gc_W (gc_S d) cX11_feed 11 0 R 50 [.ref x, l1, l2, l3, l4] (.ref x :: st) μ := us_aload_n dX11_feed_49 rfl
theorem u88_50 {d : Nat} {R : gR} {μ : gM} {L : List Value} {st : List Value} {o : Nat} (hk : gc_kd o = 11) : gc_W (gc_S d) cX11_feed 11 0 R 50 L (.ref o :: st) μ ↔ gc_W (gc_S d) cX11_feed 11 0 R 53 L (gc_fv o 0 μ :: st) μ := us_getf dX11_feed_50 gf_11_38 hk
theorem u88_53 {d : Nat} {R : gR} {μ : gM} {L : List Value} {st : List Value} {o : Nat} (hk : gc_kd o = 0) : gc_W (gc_S d) cX11_feed 11 0 R 53 L (.ref o :: st) μ ↔ gc_W (gc_S d) cX11_feed 11 0 R 56 L (gc_fv o 9 μ :: st) μ := us_getf dX11_feed_53 gf_11_158 hk
theorem u88_56 {d : Nat} {R : gR} {μ : gM} {l0 l2 l3 l4 : Value} {st : List Value} {x : Int64}  : gc_W (gc_S d) cX11_feed 11 0 R 56 [l0, .long x, l2, l3, l4] st μ ↔ gc_W (gc_S d) cX11_feed 11 0 R 57 [l0, .long x, l2, l3, l4] (.long x :: st) μ := us_lload_n dX11_feed_56 rfl
theorem u88_57 {d : Nat} {R : gR} {μ : gM} {L : List Value} {st : List Value}   : gc_W (gc_S d) cX11_feed 11 0 R 57 L st μ ↔ gc_W (gc_S d) cX11_feed 11 0 R 59 L (.int 8 :: st) μ := us_bipush dX11_feed_57 ci_bipush_8
theorem u88_59 {d : Nat} {R : gR} {μ : gM} {l0 l1 l2 l3 : Value} {st : List Value} {x : Int32}  : gc_W (gc_S d) cX11_feed 11 0 R 59 [l0, l1, l2, l3, .int x] st μ ↔ gc_W (gc_S d) cX11_feed 11 0 R 61 [l0, l1, l2, l3, .int x] (.int x :: st) μ := us_iload dX11_feed_59 rfl
theorem u88_61 {d : Nat} {R : gR} {μ : gM} {L : List Value} {st : List Value} {x y : Int32}  : gc_W (gc_S d) cX11_feed 11 0 R 61 L (.int y :: .int x :: st) μ ↔ gc_W (gc_S d) cX11_feed 11 0 R 62 L (.int (x * y) :: st) μ := us_imul dX11_feed_61
theorem u88_62 {d : Nat} {R : gR} {μ : gM} {L : List Value} {st : List Value} {x : Int64} {y : Int32}  : gc_W (gc_S d) cX11_feed 11 0 R 62 L (.int y :: .long x :: st) μ ↔ gc_W (gc_S d) cX11_feed 11 0 R 63 L (.long ((x.toUInt64 >>> (y.toInt64.toUInt64 &&& Int64.toUInt64 63)).toInt64) :: st) μ := us_lushr dX11_feed_62
theorem u88_63 {d : Nat} {R : gR} {μ : gM} {L : List Value} {st : List Value} {x : Int64}  : gc_W (gc_S d) cX11_feed 11 0 R 63 L (.long x :: st) μ ↔ gc_W (gc_S d) cX11_feed 11 0 R 64 L (.int x.toInt32 :: st) μ := us_l2i dX11_feed_63
theorem u88_64 {d : Nat} {R : gR} {μ : gM} {L : List Value} {st : List Value}   : gc_W (gc_S d) cX11_feed 11 0 R 64 L st μ ↔ gc_W (gc_S d) cX11_feed 11 0 R 67 L (.int 255 :: st) μ := us_sipush dX11_feed_64 ci_sipush_255
theorem u88_67 {d : Nat} {R : gR} {μ : gM} {L : List Value} {st : List Value} {x y : Int32}  : gc_W (gc_S d) cX11_feed 11 0 R 67 L (.int y :: .int x :: st) μ ↔ gc_W (gc_S d) cX11_feed 11 0 R 68 L (.int (x &&& y) :: st) μ := us_iand dX11_feed_67
theorem u88_68 {d : Nat} {R : gR} {μ : gM} {L : List Value} {o : Nat} {a0 : Int32} (hk : gc_kd o = 7) : gc_W (gc_S d) cX11_feed 11 0 R 68 L [.int a0, .ref o] μ ↔ gc_S d 41 [.ref o, .int a0] μ (fun v μ' => gc_W (gc_S d) cX11_feed 11 0 R 71 L (v.toList ++ []) μ') := us_virt dX11_feed_68 gn_11_164 gc_11_164_7 hk rfl rfl rfl rfl rfl
theorem u88_71 {d : Nat} {R : gR} {μ : gM} {l0 l1 l2 l3 : Value} {st : List Value} {x : Int32}  : gc_W (gc_S d) cX11_feed 11 0 R 71 [l0, l1, l2, l3, .int x] st μ ↔ gc_W (gc_S d) cX11_feed 11 0 R 74 [l0, l1, l2, l3, .int (x + 1)] st μ := us_iinc dX11_feed_71 rfl ci_iinc_1
theorem u88_74 {d : Nat} {R : gR} {μ : gM} {L : List Value} {st : List Value}  : gc_W (gc_S d) cX11_feed 11 0 R 74 L st μ ↔ gc_W (gc_S d) cX11_feed 11 0 R 43 L st μ := us_goto dX11_feed_74 rfl
theorem u88_77 {d : Nat} {R : gR} {μ : gM} {l1 l2 l3 l4 : Value} {st : List Value} {x : Nat}  : gc_W (gc_S d) cX11_feed 11 0 R 77 [.ref x, l1, l2, l3, l4] st μ ↔ gc_W (gc_S d) cX11_feed 11 0 R 78 [.ref x, l1, l2, l3, l4] (.ref x :: st) μ := us_aload_n dX11_feed_77 rfl
theorem u88_78 {d : Nat} {R : gR} {μ : gM} {L : List Value} {st : List Value} {o : Nat} (hk : gc_kd o = 11) : gc_W (gc_S d) cX11_feed 11 0 R 78 L (.ref o :: st) μ ↔ gc_W (gc_S d) cX11_feed 11 0 R 81 L (gc_fv o 0 μ :: st) μ := us_getf dX11_feed_78 gf_11_38 hk
theorem u88_81 {d : Nat} {R : gR} {μ : gM} {L : List Value} {st : List Value} {o : Nat} (hk : gc_kd o = 0) : gc_W (gc_S d) cX11_feed 11 0 R 81 L (.ref o :: st) μ ↔ gc_W (gc_S d) cX11_feed 11 0 R 84 L (gc_fv o 9 μ :: st) μ := us_getf dX11_feed_81 gf_11_158 hk
theorem u88_84 {d : Nat} {R : gR} {μ : gM} {L : List Value} {st : List Value} {o : Nat} (hk : gc_kd o = 7) : gc_W (gc_S d) cX11_feed 11 0 R 84 L (.ref o :: st) μ ↔ gc_W (gc_S d) cX11_feed 11 0 R 87 L (gc_fv o 1 μ :: st) μ := us_getf dX11_feed_84 gf_11_161 hk
theorem u88_87 {d : Nat} {R : gR} {μ : gM} {L : List Value} {v : Int32}  : gc_W (gc_S d) cX11_feed 11 0 R 87 L [.int v] μ ↔ R (some (.int v)) μ := us_iret dX11_feed_87 rfl
theorem s88 {d : Nat} {R : gR} {μ : gM} {o : Nat} {a1 : Int32} {a0 : Int64} : gc_S (d + 1) 88 [.ref o, .long a0, .int a1] μ R ↔ gc_W (gc_S d) cX11_feed 11 0 R 0 [.ref o, .long a0, .retAddr 1, .int a1, .retAddr 0] [] μ := us_call (gm_88) rfl rfl
theorem dX11_isUse_0 : decode cX11_isUse 0 = .ok (.iconst 1, 1) := by decide +kernel
theorem dX11_isUse_1 : decode cX11_isUse 1 = .ok (.iload_n 0, 1) := by decide +kernel
theorem dX11_isUse_2 : decode cX11_isUse 2 = .ok (.invokestatic 84, 3) := by decide +kernel
theorem dX11_isUse_5 : decode cX11_isUse 5 = .ok (.ireturn, 1) := by decide +kernel
theorem u89_0 {d : Nat} {R : gR} {μ : gM} {L : List Value} {st : List Value}   : gc_W (gc_S d) cX11_isUse 11 1 R 0 L st μ ↔ gc_W (gc_S d) cX11_isUse 11 1 R 1 L (.int 1 :: st) μ := us_iconst dX11_isUse_0 ci_iconst_1
theorem u89_1 {d : Nat} {R : gR} {μ : gM} {st : List Value} {x : Int32}  : gc_W (gc_S d) cX11_isUse 11 1 R 1 [.int x] st μ ↔ gc_W (gc_S d) cX11_isUse 11 1 R 2 [.int x] (.int x :: st) μ := us_iload_n dX11_isUse_1 rfl
theorem u89_2 {d : Nat} {R : gR} {μ : gM} {L : List Value}  {a0 a1 : Int32}  : gc_W (gc_S d) cX11_isUse 11 1 R 2 L [.int a1, .int a0] μ ↔ gc_S d 73 [.int a0, .int a1] μ (fun v μ' => gc_W (gc_S d) cX11_isUse 11 1 R 5 L (v.toList ++ []) μ') := us_stat dX11_isUse_2 gs_11_84 gne_11_84 gn_11_84 gc_11_84_97 rfl rfl rfl rfl
theorem u89_5 {d : Nat} {R : gR} {μ : gM} {L : List Value} {v : Int32}  : gc_W (gc_S d) cX11_isUse 11 1 R 5 L [.int v] μ ↔ ((v = 0 ∨ v = 1) ∧ R (some (.int v)) μ) := us_zret dX11_isUse_5 rfl
theorem s89 {d : Nat} {R : gR} {μ : gM} {a0 : Int32} : gc_S (d + 1) 89 [.int a0] μ R ↔ gc_W (gc_S d) cX11_isUse 11 1 R 0 [.int a0] [] μ := us_call (gm_89) rfl rfl
theorem dX11_text_0 : decode cX11_text 0 = .ok (.iload_n 1, 1) := by decide +kernel
theorem dX11_text_1 : decode cX11_text 1 = .ok (.invokestatic 167, 3) := by decide +kernel
theorem dX11_text_4 : decode cX11_text 4 = .ok (.ifCond .ne 9, 3) := by decide +kernel
theorem dX11_text_7 : decode cX11_text 7 = .ok (.aload_n 0, 1) := by decide +kernel
theorem dX11_text_8 : decode cX11_text 8 = .ok (.iconst 1, 1) := by decide +kernel
theorem dX11_text_9 : decode cX11_text 9 = .ok (.invokevirtual 88, 3) := by decide +kernel
theorem dX11_text_12 : decode cX11_text 12 = .ok (.ireturn, 1) := by decide +kernel
theorem dX11_text_13 : decode cX11_text 13 = .ok (.aload_n 0, 1) := by decide +kernel
theorem dX11_text_14 : decode cX11_text 14 = .ok (.getfield 48, 3) := by decide +kernel
theorem dX11_text_17 : decode cX11_text 17 = .ok (.aload_n 0, 1) := by decide +kernel
theorem dX11_text_18 : decode cX11_text 18 = .ok (.getfield 38, 3) := by decide +kernel
theorem dX11_text_21 : decode cX11_text 21 = .ok (.getfield 158, 3) := by decide +kernel
theorem dX11_text_24 : decode cX11_text 24 = .ok (.iload_n 1, 1) := by decide +kernel
theorem dX11_text_25 : decode cX11_text 25 = .ok (.invokevirtual 170, 3) := by decide +kernel
theorem dX11_text_28 : decode cX11_text 28 = .ok (.istore_n 2, 1) := by decide +kernel
theorem dX11_text_29 : decode cX11_text 29 = .ok (.aload_n 0, 1) := by decide +kernel
theorem dX11_text_30 : decode cX11_text 30 = .ok (.getfield 38, 3) := by decide +kernel
theorem dX11_text_33 : decode cX11_text 33 = .ok (.getfield 158, 3) := by decide +kernel
theorem dX11_text_36 : decode cX11_text 36 = .ok (.iconst 0, 1) := by decide +kernel
theorem dX11_text_37 : decode cX11_text 37 = .ok (.putfield 161, 3) := by decide +kernel
theorem dX11_text_40 : decode cX11_text 40 = .ok (.iload_n 2, 1) := by decide +kernel
theorem dX11_text_41 : decode cX11_text 41 = .ok (.ifCond .lt 8, 3) := by decide +kernel
theorem dX11_text_44 : decode cX11_text 44 = .ok (.bipush (-10), 2) := by decide +kernel
theorem dX11_text_46 : decode cX11_text 46 = .ok (.iload_n 2, 1) := by decide +kernel
theorem dX11_text_47 : decode cX11_text 47 = .ok (.isub, 1) := by decide +kernel
theorem dX11_text_48 : decode cX11_text 48 = .ok (.ireturn, 1) := by decide +kernel
theorem dX11_text_49 : decode cX11_text 49 = .ok (.aload_n 0, 1) := by decide +kernel
theorem dX11_text_50 : decode cX11_text 50 = .ok (.getfield 38, 3) := by decide +kernel
theorem dX11_text_53 : decode cX11_text 53 = .ok (.getfield 174, 3) := by decide +kernel
theorem dX11_text_56 : decode cX11_text 56 = .ok (.iload_n 1, 1) := by decide +kernel
theorem dX11_text_57 : decode cX11_text 57 = .ok (.aaload, 1) := by decide +kernel
theorem dX11_text_58 : decode cX11_text 58 = .ok (.getfield 178, 3) := by decide +kernel
theorem dX11_text_61 : decode cX11_text 61 = .ok (.aload_n 0, 1) := by decide +kernel
theorem dX11_text_62 : decode cX11_text 62 = .ok (.getfield 48, 3) := by decide +kernel
theorem dX11_text_65 : decode cX11_text 65 = .ok (.getfield 178, 3) := by decide +kernel
theorem dX11_text_68 : decode cX11_text 68 = .ok (.invokevirtual 181, 3) := by decide +kernel
theorem dX11_text_71 : decode cX11_text 71 = .ok (.iconst 1, 1) := by decide +kernel
theorem dX11_text_72 : decode cX11_text 72 = .ok (.ireturn, 1) := by decide +kernel
theorem u90_0 {d : Nat} {R : gR} {μ : gM} {l0 l2 : Value} {st : List Value} {x : Int32}  : gc_W (gc_S d) cX11_text 11 0 R 0 [l0, .int x, l2] st μ ↔ gc_W (gc_S d) cX11_text 11 0 R 1 [l0, .int x, l2] (.int x :: st) μ := us_iload_n dX11_text_0 rfl
theorem u90_1 {d : Nat} {R : gR} {μ : gM} {L : List Value}  {a0 : Int32}  : gc_W (gc_S d) cX11_text 11 0 R 1 L [.int a0] μ ↔ gc_S d 89 [.int a0] μ (fun v μ' => gc_W (gc_S d) cX11_text 11 0 R 4 L (v.toList ++ []) μ') := us_stat dX11_text_1 gs_11_167 gne_11_167 gn_11_167 gc_11_167_97 rfl rfl rfl rfl
theorem u90_4 {d : Nat} {R : gR} {μ : gM} {L : List Value} {st : List Value} {x : Int32}  : gc_W (gc_S d) cX11_text 11 0 R 4 L (.int x :: st) μ ↔ if x = 0 then gc_W (gc_S d) cX11_text 11 0 R 7 L st μ else gc_W (gc_S d) cX11_text 11 0 R 13 L st μ := us_ifne dX11_text_4 rfl
theorem u90_7 {d : Nat} {R : gR} {μ : gM} {l1 l2 : Value} {st : List Value} {x : Nat}  : gc_W (gc_S d) cX11_text 11 0 R 7 [.ref x, l1, l2] st μ ↔ gc_W (gc_S d) cX11_text 11 0 R 8 [.ref x, l1, l2] (.ref x :: st) μ := us_aload_n dX11_text_7 rfl
theorem u90_8 {d : Nat} {R : gR} {μ : gM} {L : List Value} {st : List Value}   : gc_W (gc_S d) cX11_text 11 0 R 8 L st μ ↔ gc_W (gc_S d) cX11_text 11 0 R 9 L (.int 1 :: st) μ := us_iconst dX11_text_8 ci_iconst_1
theorem u90_9 {d : Nat} {R : gR} {μ : gM} {L : List Value} {o : Nat} {a0 : Int32} (hk : gc_kd o = 11) : gc_W (gc_S d) cX11_text 11 0 R 9 L [.int a0, .ref o] μ ↔ gc_S d 75 [.ref o, .int a0] μ (fun v μ' => gc_W (gc_S d) cX11_text 11 0 R 12 L (v.toList ++ []) μ') := us_virt dX11_text_9 gn_11_88 gc_11_88_11 hk rfl rfl rfl rfl rfl
theorem u90_12 {d : Nat} {R : gR} {μ : gM} {L : List Value} {v : Int32}  : gc_W (gc_S d) cX11_text 11 0 R 12 L [.int v] μ ↔ R (some (.int v)) μ := us_iret dX11_text_12 rfl
theorem u90_13 {d : Nat} {R : gR} {μ : gM} {l1 l2 : Value} {st : List Value} {x : Nat}  : gc_W (gc_S d) cX11_text 11 0 R 13 [.ref x, l1, l2] st μ ↔ gc_W (gc_S d) cX11_text 11 0 R 14 [.ref x, l1, l2] (.ref x :: st) μ := us_aload_n dX11_text_13 rfl
theorem u90_14 {d : Nat} {R : gR} {μ : gM} {L : List Value} {st : List Value} {o : Nat} (hk : gc_kd o = 11) : gc_W (gc_S d) cX11_text 11 0 R 14 L (.ref o :: st) μ ↔ gc_W (gc_S d) cX11_text 11 0 R 17 L (gc_fv o 3 μ :: st) μ := us_getf dX11_text_14 gf_11_48 hk
theorem u90_17 {d : Nat} {R : gR} {μ : gM} {l1 l2 : Value} {st : List Value} {x : Nat}  : gc_W (gc_S d) cX11_text 11 0 R 17 [.ref x, l1, l2] st μ ↔ gc_W (gc_S d) cX11_text 11 0 R 18 [.ref x, l1, l2] (.ref x :: st) μ := us_aload_n dX11_text_17 rfl
theorem u90_18 {d : Nat} {R : gR} {μ : gM} {L : List Value} {st : List Value} {o : Nat} (hk : gc_kd o = 11) : gc_W (gc_S d) cX11_text 11 0 R 18 L (.ref o :: st) μ ↔ gc_W (gc_S d) cX11_text 11 0 R 21 L (gc_fv o 0 μ :: st) μ := us_getf dX11_text_18 gf_11_38 hk
theorem u90_21 {d : Nat} {R : gR} {μ : gM} {L : List Value} {st : List Value} {o : Nat} (hk : gc_kd o = 0) : gc_W (gc_S d) cX11_text 11 0 R 21 L (.ref o :: st) μ ↔ gc_W (gc_S d) cX11_text 11 0 R 24 L (gc_fv o 9 μ :: st) μ := us_getf dX11_text_21 gf_11_158 hk
theorem u90_24 {d : Nat} {R : gR} {μ : gM} {l0 l2 : Value} {st : List Value} {x : Int32}  : gc_W (gc_S d) cX11_text 11 0 R 24 [l0, .int x, l2] st μ ↔ gc_W (gc_S d) cX11_text 11 0 R 25 [l0, .int x, l2] (.int x :: st) μ := us_iload_n dX11_text_24 rfl
theorem u90_25 {d : Nat} {R : gR} {μ : gM} {L : List Value} {o : Nat} {a1 : Int32} {a0 : Nat} (hk : gc_kd o = 2) : gc_W (gc_S d) cX11_text 11 0 R 25 L [.int a1, .ref a0, .ref o] μ ↔ gc_S d 65 [.ref o, .ref a0, .int a1] μ (fun v μ' => gc_W (gc_S d) cX11_text 11 0 R 28 L (v.toList ++ []) μ') := us_virt dX11_text_25 gn_11_170 gc_11_170_2 hk rfl rfl rfl rfl rfl
theorem u90_28 {d : Nat} {R : gR} {μ : gM} {l0 l1 l2 : Value} {st : List Value} {x : Int32} (hs : gc_sk l2 = true) : gc_W (gc_S d) cX11_text 11 0 R 28 [l0, l1, l2] (.int x :: st) μ ↔ gc_W (gc_S d) cX11_text 11 0 R 29 [l0, l1, .int x] st μ := us_istore_n dX11_text_28 rfl hs
theorem u90_29 {d : Nat} {R : gR} {μ : gM} {l1 l2 : Value} {st : List Value} {x : Nat}  : gc_W (gc_S d) cX11_text 11 0 R 29 [.ref x, l1, l2] st μ ↔ gc_W (gc_S d) cX11_text 11 0 R 30 [.ref x, l1, l2] (.ref x :: st) μ := us_aload_n dX11_text_29 rfl
theorem u90_30 {d : Nat} {R : gR} {μ : gM} {L : List Value} {st : List Value} {o : Nat} (hk : gc_kd o = 11) : gc_W (gc_S d) cX11_text 11 0 R 30 L (.ref o :: st) μ ↔ gc_W (gc_S d) cX11_text 11 0 R 33 L (gc_fv o 0 μ :: st) μ := us_getf dX11_text_30 gf_11_38 hk
theorem u90_33 {d : Nat} {R : gR} {μ : gM} {L : List Value} {st : List Value} {o : Nat} (hk : gc_kd o = 0) : gc_W (gc_S d) cX11_text 11 0 R 33 L (.ref o :: st) μ ↔ gc_W (gc_S d) cX11_text 11 0 R 36 L (gc_fv o 9 μ :: st) μ := us_getf dX11_text_33 gf_11_158 hk
theorem u90_36 {d : Nat} {R : gR} {μ : gM} {L : List Value} {st : List Value}   : gc_W (gc_S d) cX11_text 11 0 R 36 L st μ ↔ gc_W (gc_S d) cX11_text 11 0 R 37 L (.int 0 :: st) μ := us_iconst dX11_text_36 ci_iconst_0
theorem u90_37 {d : Nat} {R : gR} {μ : gM} {L : List Value} {st : List Value} {o : Nat} {x : Int32} (hk : gc_kd o = 7) (hj : gc_fk o 1 = 0) : gc_W (gc_S d) cX11_text 11 0 R 37 L (.int x :: .ref o :: st) μ ↔ gc_W (gc_S d) cX11_text 11 0 R 40 L st (gc_up μ o 1 x) := us_putf dX11_text_37 gf_11_161 hk hj rfl
theorem u90_40 {d : Nat} {R : gR} {μ : gM} {l0 l1 : Value} {st : List Value} {x : Int32}  : gc_W (gc_S d) cX11_text 11 0 R 40 [l0, l1, .int x] st μ ↔ gc_W (gc_S d) cX11_text 11 0 R 41 [l0, l1, .int x] (.int x :: st) μ := us_iload_n dX11_text_40 rfl
theorem u90_41 {d : Nat} {R : gR} {μ : gM} {L : List Value} {st : List Value} {x : Int32}  : gc_W (gc_S d) cX11_text 11 0 R 41 L (.int x :: st) μ ↔ if x < 0 then gc_W (gc_S d) cX11_text 11 0 R 49 L st μ else gc_W (gc_S d) cX11_text 11 0 R 44 L st μ := us_iflt dX11_text_41 rfl
theorem u90_44 {d : Nat} {R : gR} {μ : gM} {L : List Value} {st : List Value}   : gc_W (gc_S d) cX11_text 11 0 R 44 L st μ ↔ gc_W (gc_S d) cX11_text 11 0 R 46 L (.int (-10) :: st) μ := us_bipush dX11_text_44 ci_bipush_m10
theorem u90_46 {d : Nat} {R : gR} {μ : gM} {l0 l1 : Value} {st : List Value} {x : Int32}  : gc_W (gc_S d) cX11_text 11 0 R 46 [l0, l1, .int x] st μ ↔ gc_W (gc_S d) cX11_text 11 0 R 47 [l0, l1, .int x] (.int x :: st) μ := us_iload_n dX11_text_46 rfl
theorem u90_47 {d : Nat} {R : gR} {μ : gM} {L : List Value} {st : List Value} {x y : Int32}  : gc_W (gc_S d) cX11_text 11 0 R 47 L (.int y :: .int x :: st) μ ↔ gc_W (gc_S d) cX11_text 11 0 R 48 L (.int (x - y) :: st) μ := us_isub dX11_text_47
theorem u90_48 {d : Nat} {R : gR} {μ : gM} {L : List Value} {v : Int32}  : gc_W (gc_S d) cX11_text 11 0 R 48 L [.int v] μ ↔ R (some (.int v)) μ := us_iret dX11_text_48 rfl
theorem u90_49 {d : Nat} {R : gR} {μ : gM} {l1 l2 : Value} {st : List Value} {x : Nat}  : gc_W (gc_S d) cX11_text 11 0 R 49 [.ref x, l1, l2] st μ ↔ gc_W (gc_S d) cX11_text 11 0 R 50 [.ref x, l1, l2] (.ref x :: st) μ := us_aload_n dX11_text_49 rfl
theorem u90_50 {d : Nat} {R : gR} {μ : gM} {L : List Value} {st : List Value} {o : Nat} (hk : gc_kd o = 11) : gc_W (gc_S d) cX11_text 11 0 R 50 L (.ref o :: st) μ ↔ gc_W (gc_S d) cX11_text 11 0 R 53 L (gc_fv o 0 μ :: st) μ := us_getf dX11_text_50 gf_11_38 hk
theorem u90_53 {d : Nat} {R : gR} {μ : gM} {L : List Value} {st : List Value} {o : Nat} (hk : gc_kd o = 0) : gc_W (gc_S d) cX11_text 11 0 R 53 L (.ref o :: st) μ ↔ gc_W (gc_S d) cX11_text 11 0 R 56 L (gc_fv o 1 μ :: st) μ := us_getf dX11_text_53 gf_11_174 hk
theorem u90_56 {d : Nat} {R : gR} {μ : gM} {l0 l2 : Value} {st : List Value} {x : Int32}  : gc_W (gc_S d) cX11_text 11 0 R 56 [l0, .int x, l2] st μ ↔ gc_W (gc_S d) cX11_text 11 0 R 57 [l0, .int x, l2] (.int x :: st) μ := us_iload_n dX11_text_56 rfl
theorem u90_57 {d : Nat} {R : gR} {μ : gM} {L : List Value} {st : List Value} {o : Nat} {i : Int32} {q : Nat} (hk : gc_kd o = q) (hq : (Nat.ble 22 q && Nat.ble q 24) = true) : gc_W (gc_S d) cX11_text 11 0 R 57 L (.int i :: .ref o :: st) μ ↔ (vp_in i (gc_al o) ∧ gc_W (gc_S d) cX11_text 11 0 R 58 L (.ref (gc_ra o i.toNatClampNeg) :: st) μ) := us_aald dX11_text_57 hk hq
theorem u90_58 {d : Nat} {R : gR} {μ : gM} {L : List Value} {st : List Value} {o : Nat} (hk : gc_kd o = 2) : gc_W (gc_S d) cX11_text 11 0 R 58 L (.ref o :: st) μ ↔ gc_W (gc_S d) cX11_text 11 0 R 61 L (gc_fv o 0 μ :: st) μ := us_getf dX11_text_58 gf_11_178 hk
theorem u90_61 {d : Nat} {R : gR} {μ : gM} {l1 l2 : Value} {st : List Value} {x : Nat}  : gc_W (gc_S d) cX11_text 11 0 R 61 [.ref x, l1, l2] st μ ↔ gc_W (gc_S d) cX11_text 11 0 R 62 [.ref x, l1, l2] (.ref x :: st) μ := us_aload_n dX11_text_61 rfl
theorem u90_62 {d : Nat} {R : gR} {μ : gM} {L : List Value} {st : List Value} {o : Nat} (hk : gc_kd o = 11) : gc_W (gc_S d) cX11_text 11 0 R 62 L (.ref o :: st) μ ↔ gc_W (gc_S d) cX11_text 11 0 R 65 L (gc_fv o 3 μ :: st) μ := us_getf dX11_text_62 gf_11_48 hk
theorem u90_65 {d : Nat} {R : gR} {μ : gM} {L : List Value} {st : List Value} {o : Nat} (hk : gc_kd o = 2) : gc_W (gc_S d) cX11_text 11 0 R 65 L (.ref o :: st) μ ↔ gc_W (gc_S d) cX11_text 11 0 R 68 L (gc_fv o 0 μ :: st) μ := us_getf dX11_text_65 gf_11_178 hk
theorem u90_68 {d : Nat} {R : gR} {μ : gM} {L : List Value} {o : Nat} {a0 : Nat} (hk : gc_kd o = 7) : gc_W (gc_S d) cX11_text 11 0 R 68 L [.ref a0, .ref o] μ ↔ gc_S d 1 [.ref o, .ref a0] μ (fun v μ' => gc_W (gc_S d) cX11_text 11 0 R 71 L (v.toList ++ []) μ') := us_virt dX11_text_68 gn_11_181 gc_11_181_7 hk rfl rfl rfl rfl rfl
theorem u90_71 {d : Nat} {R : gR} {μ : gM} {L : List Value} {st : List Value}   : gc_W (gc_S d) cX11_text 11 0 R 71 L st μ ↔ gc_W (gc_S d) cX11_text 11 0 R 72 L (.int 1 :: st) μ := us_iconst dX11_text_71 ci_iconst_1
theorem u90_72 {d : Nat} {R : gR} {μ : gM} {L : List Value} {v : Int32}  : gc_W (gc_S d) cX11_text 11 0 R 72 L [.int v] μ ↔ R (some (.int v)) μ := us_iret dX11_text_72 rfl
theorem s90 {d : Nat} {R : gR} {μ : gM} {o : Nat} {a0 : Int32} : gc_S (d + 1) 90 [.ref o, .int a0] μ R ↔ gc_W (gc_S d) cX11_text 11 0 R 0 [.ref o, .int a0, .retAddr 0] [] μ := us_call (gm_90) rfl rfl
theorem dX11_law_0 : decode cX11_law 0 = .ok (.iload_n 1, 1) := by decide +kernel
theorem dX11_law_1 : decode cX11_law 1 = .ok (.invokestatic 167, 3) := by decide +kernel
theorem dX11_law_4 : decode cX11_law 4 = .ok (.ifCond .eq 18, 3) := by decide +kernel
theorem dX11_law_7 : decode cX11_law 7 = .ok (.aload_n 0, 1) := by decide +kernel
theorem dX11_law_8 : decode cX11_law 8 = .ok (.getfield 38, 3) := by decide +kernel
theorem dX11_law_11 : decode cX11_law 11 = .ok (.iload_n 1, 1) := by decide +kernel
theorem dX11_law_12 : decode cX11_law 12 = .ok (.iload_n 2, 1) := by decide +kernel
theorem dX11_law_13 : decode cX11_law 13 = .ok (.iload_n 3, 1) := by decide +kernel
theorem dX11_law_14 : decode cX11_law 14 = .ok (.iload 4, 2) := by decide +kernel
theorem dX11_law_16 : decode cX11_law 16 = .ok (.invokevirtual 185, 3) := by decide +kernel
theorem dX11_law_19 : decode cX11_law 19 = .ok (.goto 8, 3) := by decide +kernel
theorem dX11_law_22 : decode cX11_law 22 = .ok (.aload_n 0, 1) := by decide +kernel
theorem dX11_law_23 : decode cX11_law 23 = .ok (.iconst 1, 1) := by decide +kernel
theorem dX11_law_24 : decode cX11_law 24 = .ok (.invokevirtual 88, 3) := by decide +kernel
theorem dX11_law_27 : decode cX11_law 27 = .ok (.ireturn, 1) := by decide +kernel
theorem u91_0 {d : Nat} {R : gR} {μ : gM} {l0 l2 l3 l4 : Value} {st : List Value} {x : Int32}  : gc_W (gc_S d) cX11_law 11 0 R 0 [l0, .int x, l2, l3, l4] st μ ↔ gc_W (gc_S d) cX11_law 11 0 R 1 [l0, .int x, l2, l3, l4] (.int x :: st) μ := us_iload_n dX11_law_0 rfl
theorem u91_1 {d : Nat} {R : gR} {μ : gM} {L : List Value}  {a0 : Int32}  : gc_W (gc_S d) cX11_law 11 0 R 1 L [.int a0] μ ↔ gc_S d 89 [.int a0] μ (fun v μ' => gc_W (gc_S d) cX11_law 11 0 R 4 L (v.toList ++ []) μ') := us_stat dX11_law_1 gs_11_167 gne_11_167 gn_11_167 gc_11_167_97 rfl rfl rfl rfl
theorem u91_4 {d : Nat} {R : gR} {μ : gM} {L : List Value} {st : List Value} {x : Int32}  : gc_W (gc_S d) cX11_law 11 0 R 4 L (.int x :: st) μ ↔ if x = 0 then gc_W (gc_S d) cX11_law 11 0 R 22 L st μ else gc_W (gc_S d) cX11_law 11 0 R 7 L st μ := us_ifeq dX11_law_4 rfl
theorem u91_7 {d : Nat} {R : gR} {μ : gM} {l1 l2 l3 l4 : Value} {st : List Value} {x : Nat}  : gc_W (gc_S d) cX11_law 11 0 R 7 [.ref x, l1, l2, l3, l4] st μ ↔ gc_W (gc_S d) cX11_law 11 0 R 8 [.ref x, l1, l2, l3, l4] (.ref x :: st) μ := us_aload_n dX11_law_7 rfl
theorem u91_8 {d : Nat} {R : gR} {μ : gM} {L : List Value} {st : List Value} {o : Nat} (hk : gc_kd o = 11) : gc_W (gc_S d) cX11_law 11 0 R 8 L (.ref o :: st) μ ↔ gc_W (gc_S d) cX11_law 11 0 R 11 L (gc_fv o 0 μ :: st) μ := us_getf dX11_law_8 gf_11_38 hk
theorem u91_11 {d : Nat} {R : gR} {μ : gM} {l0 l2 l3 l4 : Value} {st : List Value} {x : Int32}  : gc_W (gc_S d) cX11_law 11 0 R 11 [l0, .int x, l2, l3, l4] st μ ↔ gc_W (gc_S d) cX11_law 11 0 R 12 [l0, .int x, l2, l3, l4] (.int x :: st) μ := us_iload_n dX11_law_11 rfl
theorem u91_12 {d : Nat} {R : gR} {μ : gM} {l0 l1 l3 l4 : Value} {st : List Value} {x : Int32}  : gc_W (gc_S d) cX11_law 11 0 R 12 [l0, l1, .int x, l3, l4] st μ ↔ gc_W (gc_S d) cX11_law 11 0 R 13 [l0, l1, .int x, l3, l4] (.int x :: st) μ := us_iload_n dX11_law_12 rfl
theorem u91_13 {d : Nat} {R : gR} {μ : gM} {l0 l1 l2 l4 : Value} {st : List Value} {x : Int32}  : gc_W (gc_S d) cX11_law 11 0 R 13 [l0, l1, l2, .int x, l4] st μ ↔ gc_W (gc_S d) cX11_law 11 0 R 14 [l0, l1, l2, .int x, l4] (.int x :: st) μ := us_iload_n dX11_law_13 rfl
theorem u91_14 {d : Nat} {R : gR} {μ : gM} {l0 l1 l2 l3 : Value} {st : List Value} {x : Int32}  : gc_W (gc_S d) cX11_law 11 0 R 14 [l0, l1, l2, l3, .int x] st μ ↔ gc_W (gc_S d) cX11_law 11 0 R 16 [l0, l1, l2, l3, .int x] (.int x :: st) μ := us_iload dX11_law_14 rfl
theorem u91_16 {d : Nat} {R : gR} {μ : gM} {L : List Value} {o : Nat} {a0 a1 a2 a3 : Int32} (hk : gc_kd o = 0) : gc_W (gc_S d) cX11_law 11 0 R 16 L [.int a3, .int a2, .int a1, .int a0, .ref o] μ ↔ gc_S d 13 [.ref o, .int a0, .int a1, .int a2, .int a3] μ (fun v μ' => gc_W (gc_S d) cX11_law 11 0 R 19 L (v.toList ++ []) μ') := us_virt dX11_law_16 gn_11_185 gc_11_185_0 hk rfl rfl rfl rfl rfl
theorem u91_19 {d : Nat} {R : gR} {μ : gM} {L : List Value} {st : List Value}  : gc_W (gc_S d) cX11_law 11 0 R 19 L st μ ↔ gc_W (gc_S d) cX11_law 11 0 R 27 L st μ := us_goto dX11_law_19 rfl
theorem u91_22 {d : Nat} {R : gR} {μ : gM} {l1 l2 l3 l4 : Value} {st : List Value} {x : Nat}  : gc_W (gc_S d) cX11_law 11 0 R 22 [.ref x, l1, l2, l3, l4] st μ ↔ gc_W (gc_S d) cX11_law 11 0 R 23 [.ref x, l1, l2, l3, l4] (.ref x :: st) μ := us_aload_n dX11_law_22 rfl
theorem u91_23 {d : Nat} {R : gR} {μ : gM} {L : List Value} {st : List Value}   : gc_W (gc_S d) cX11_law 11 0 R 23 L st μ ↔ gc_W (gc_S d) cX11_law 11 0 R 24 L (.int 1 :: st) μ := us_iconst dX11_law_23 ci_iconst_1
theorem u91_24 {d : Nat} {R : gR} {μ : gM} {L : List Value} {o : Nat} {a0 : Int32} (hk : gc_kd o = 11) : gc_W (gc_S d) cX11_law 11 0 R 24 L [.int a0, .ref o] μ ↔ gc_S d 75 [.ref o, .int a0] μ (fun v μ' => gc_W (gc_S d) cX11_law 11 0 R 27 L (v.toList ++ []) μ') := us_virt dX11_law_24 gn_11_88 gc_11_88_11 hk rfl rfl rfl rfl rfl
theorem u91_27 {d : Nat} {R : gR} {μ : gM} {L : List Value} {v : Int32}  : gc_W (gc_S d) cX11_law 11 0 R 27 L [.int v] μ ↔ R (some (.int v)) μ := us_iret dX11_law_27 rfl
theorem s91 {d : Nat} {R : gR} {μ : gM} {o : Nat} {a0 a1 a2 a3 : Int32} : gc_S (d + 1) 91 [.ref o, .int a0, .int a1, .int a2, .int a3] μ R ↔ gc_W (gc_S d) cX11_law 11 0 R 0 [.ref o, .int a0, .int a1, .int a2, .int a3] [] μ := us_call (gm_91) rfl rfl
theorem dX11_years_0 : decode cX11_years 0 = .ok (.iload_n 1, 1) := by decide +kernel
theorem dX11_years_1 : decode cX11_years 1 = .ok (.iconst 1, 1) := by decide +kernel
theorem dX11_years_2 : decode cX11_years 2 = .ok (.if_icmp .lt 9, 3) := by decide +kernel
theorem dX11_years_5 : decode cX11_years 5 = .ok (.iload_n 1, 1) := by decide +kernel
theorem dX11_years_6 : decode cX11_years 6 = .ok (.bipush 60, 2) := by decide +kernel
theorem dX11_years_8 : decode cX11_years 8 = .ok (.if_icmp .le 9, 3) := by decide +kernel
theorem dX11_years_11 : decode cX11_years 11 = .ok (.aload_n 0, 1) := by decide +kernel
theorem dX11_years_12 : decode cX11_years 12 = .ok (.iconst 1, 1) := by decide +kernel
theorem dX11_years_13 : decode cX11_years 13 = .ok (.invokevirtual 88, 3) := by decide +kernel
theorem dX11_years_16 : decode cX11_years 16 = .ok (.ireturn, 1) := by decide +kernel
theorem dX11_years_17 : decode cX11_years 17 = .ok (.aload_n 0, 1) := by decide +kernel
theorem dX11_years_18 : decode cX11_years 18 = .ok (.getfield 38, 3) := by decide +kernel
theorem dX11_years_21 : decode cX11_years 21 = .ok (.getfield 149, 3) := by decide +kernel
theorem dX11_years_24 : decode cX11_years 24 = .ok (.iload_n 1, 1) := by decide +kernel
theorem dX11_years_25 : decode cX11_years 25 = .ok (.iadd, 1) := by decide +kernel
theorem dX11_years_26 : decode cX11_years 26 = .ok (.sipush 9999, 3) := by decide +kernel
theorem dX11_years_29 : decode cX11_years 29 = .ok (.if_icmp .le 9, 3) := by decide +kernel
theorem dX11_years_32 : decode cX11_years 32 = .ok (.aload_n 0, 1) := by decide +kernel
theorem dX11_years_33 : decode cX11_years 33 = .ok (.iconst 3, 1) := by decide +kernel
theorem dX11_years_34 : decode cX11_years 34 = .ok (.invokevirtual 88, 3) := by decide +kernel
theorem dX11_years_37 : decode cX11_years 37 = .ok (.ireturn, 1) := by decide +kernel
theorem dX11_years_38 : decode cX11_years 38 = .ok (.iconst 0, 1) := by decide +kernel
theorem dX11_years_39 : decode cX11_years 39 = .ok (.istore_n 2, 1) := by decide +kernel
theorem dX11_years_40 : decode cX11_years 40 = .ok (.iload_n 2, 1) := by decide +kernel
theorem dX11_years_41 : decode cX11_years 41 = .ok (.iload_n 1, 1) := by decide +kernel
theorem dX11_years_42 : decode cX11_years 42 = .ok (.if_icmp .ge 16, 3) := by decide +kernel
theorem dX11_years_45 : decode cX11_years 45 = .ok (.aload_n 0, 1) := by decide +kernel
theorem dX11_years_46 : decode cX11_years 46 = .ok (.getfield 38, 3) := by decide +kernel
theorem dX11_years_49 : decode cX11_years 49 = .ok (.invokevirtual 189, 3) := by decide +kernel
theorem dX11_years_52 : decode cX11_years 52 = .ok (.iinc 2 1, 3) := by decide +kernel
theorem dX11_years_55 : decode cX11_years 55 = .ok (.goto (-15), 3) := by decide +kernel
theorem dX11_years_58 : decode cX11_years 58 = .ok (.aload_n 0, 1) := by decide +kernel
theorem dX11_years_59 : decode cX11_years 59 = .ok (.getfield 38, 3) := by decide +kernel
theorem dX11_years_62 : decode cX11_years 62 = .ok (.invokevirtual 192, 3) := by decide +kernel
theorem dX11_years_65 : decode cX11_years 65 = .ok (.ireturn, 1) := by decide +kernel
theorem u92_0 {d : Nat} {R : gR} {μ : gM} {l0 l2 : Value} {st : List Value} {x : Int32}  : gc_W (gc_S d) cX11_years 11 0 R 0 [l0, .int x, l2] st μ ↔ gc_W (gc_S d) cX11_years 11 0 R 1 [l0, .int x, l2] (.int x :: st) μ := us_iload_n dX11_years_0 rfl
theorem u92_1 {d : Nat} {R : gR} {μ : gM} {L : List Value} {st : List Value}   : gc_W (gc_S d) cX11_years 11 0 R 1 L st μ ↔ gc_W (gc_S d) cX11_years 11 0 R 2 L (.int 1 :: st) μ := us_iconst dX11_years_1 ci_iconst_1
theorem u92_2 {d : Nat} {R : gR} {μ : gM} {L : List Value} {st : List Value} {x y : Int32}  : gc_W (gc_S d) cX11_years 11 0 R 2 L (.int y :: .int x :: st) μ ↔ if x < y then gc_W (gc_S d) cX11_years 11 0 R 11 L st μ else gc_W (gc_S d) cX11_years 11 0 R 5 L st μ := us_iclt dX11_years_2 rfl
theorem u92_5 {d : Nat} {R : gR} {μ : gM} {l0 l2 : Value} {st : List Value} {x : Int32}  : gc_W (gc_S d) cX11_years 11 0 R 5 [l0, .int x, l2] st μ ↔ gc_W (gc_S d) cX11_years 11 0 R 6 [l0, .int x, l2] (.int x :: st) μ := us_iload_n dX11_years_5 rfl
theorem u92_6 {d : Nat} {R : gR} {μ : gM} {L : List Value} {st : List Value}   : gc_W (gc_S d) cX11_years 11 0 R 6 L st μ ↔ gc_W (gc_S d) cX11_years 11 0 R 8 L (.int 60 :: st) μ := us_bipush dX11_years_6 ci_bipush_60
theorem u92_8 {d : Nat} {R : gR} {μ : gM} {L : List Value} {st : List Value} {x y : Int32}  : gc_W (gc_S d) cX11_years 11 0 R 8 L (.int y :: .int x :: st) μ ↔ if x ≤ y then gc_W (gc_S d) cX11_years 11 0 R 17 L st μ else gc_W (gc_S d) cX11_years 11 0 R 11 L st μ := us_icle dX11_years_8 rfl
theorem u92_11 {d : Nat} {R : gR} {μ : gM} {l1 l2 : Value} {st : List Value} {x : Nat}  : gc_W (gc_S d) cX11_years 11 0 R 11 [.ref x, l1, l2] st μ ↔ gc_W (gc_S d) cX11_years 11 0 R 12 [.ref x, l1, l2] (.ref x :: st) μ := us_aload_n dX11_years_11 rfl
theorem u92_12 {d : Nat} {R : gR} {μ : gM} {L : List Value} {st : List Value}   : gc_W (gc_S d) cX11_years 11 0 R 12 L st μ ↔ gc_W (gc_S d) cX11_years 11 0 R 13 L (.int 1 :: st) μ := us_iconst dX11_years_12 ci_iconst_1
theorem u92_13 {d : Nat} {R : gR} {μ : gM} {L : List Value} {o : Nat} {a0 : Int32} (hk : gc_kd o = 11) : gc_W (gc_S d) cX11_years 11 0 R 13 L [.int a0, .ref o] μ ↔ gc_S d 75 [.ref o, .int a0] μ (fun v μ' => gc_W (gc_S d) cX11_years 11 0 R 16 L (v.toList ++ []) μ') := us_virt dX11_years_13 gn_11_88 gc_11_88_11 hk rfl rfl rfl rfl rfl
theorem u92_16 {d : Nat} {R : gR} {μ : gM} {L : List Value} {v : Int32}  : gc_W (gc_S d) cX11_years 11 0 R 16 L [.int v] μ ↔ R (some (.int v)) μ := us_iret dX11_years_16 rfl
theorem u92_17 {d : Nat} {R : gR} {μ : gM} {l1 l2 : Value} {st : List Value} {x : Nat}  : gc_W (gc_S d) cX11_years 11 0 R 17 [.ref x, l1, l2] st μ ↔ gc_W (gc_S d) cX11_years 11 0 R 18 [.ref x, l1, l2] (.ref x :: st) μ := us_aload_n dX11_years_17 rfl
theorem u92_18 {d : Nat} {R : gR} {μ : gM} {L : List Value} {st : List Value} {o : Nat} (hk : gc_kd o = 11) : gc_W (gc_S d) cX11_years 11 0 R 18 L (.ref o :: st) μ ↔ gc_W (gc_S d) cX11_years 11 0 R 21 L (gc_fv o 0 μ :: st) μ := us_getf dX11_years_18 gf_11_38 hk
theorem u92_21 {d : Nat} {R : gR} {μ : gM} {L : List Value} {st : List Value} {o : Nat} (hk : gc_kd o = 0) : gc_W (gc_S d) cX11_years 11 0 R 21 L (.ref o :: st) μ ↔ gc_W (gc_S d) cX11_years 11 0 R 24 L (gc_fv o 12 μ :: st) μ := us_getf dX11_years_21 gf_11_149 hk
theorem u92_24 {d : Nat} {R : gR} {μ : gM} {l0 l2 : Value} {st : List Value} {x : Int32}  : gc_W (gc_S d) cX11_years 11 0 R 24 [l0, .int x, l2] st μ ↔ gc_W (gc_S d) cX11_years 11 0 R 25 [l0, .int x, l2] (.int x :: st) μ := us_iload_n dX11_years_24 rfl
theorem u92_25 {d : Nat} {R : gR} {μ : gM} {L : List Value} {st : List Value} {x y : Int32}  : gc_W (gc_S d) cX11_years 11 0 R 25 L (.int y :: .int x :: st) μ ↔ gc_W (gc_S d) cX11_years 11 0 R 26 L (.int (x + y) :: st) μ := us_iadd dX11_years_25
theorem u92_26 {d : Nat} {R : gR} {μ : gM} {L : List Value} {st : List Value}   : gc_W (gc_S d) cX11_years 11 0 R 26 L st μ ↔ gc_W (gc_S d) cX11_years 11 0 R 29 L (.int 9999 :: st) μ := us_sipush dX11_years_26 ci_sipush_9999
theorem u92_29 {d : Nat} {R : gR} {μ : gM} {L : List Value} {st : List Value} {x y : Int32}  : gc_W (gc_S d) cX11_years 11 0 R 29 L (.int y :: .int x :: st) μ ↔ if x ≤ y then gc_W (gc_S d) cX11_years 11 0 R 38 L st μ else gc_W (gc_S d) cX11_years 11 0 R 32 L st μ := us_icle dX11_years_29 rfl
theorem u92_32 {d : Nat} {R : gR} {μ : gM} {l1 l2 : Value} {st : List Value} {x : Nat}  : gc_W (gc_S d) cX11_years 11 0 R 32 [.ref x, l1, l2] st μ ↔ gc_W (gc_S d) cX11_years 11 0 R 33 [.ref x, l1, l2] (.ref x :: st) μ := us_aload_n dX11_years_32 rfl
theorem u92_33 {d : Nat} {R : gR} {μ : gM} {L : List Value} {st : List Value}   : gc_W (gc_S d) cX11_years 11 0 R 33 L st μ ↔ gc_W (gc_S d) cX11_years 11 0 R 34 L (.int 3 :: st) μ := us_iconst dX11_years_33 ci_iconst_3
theorem u92_34 {d : Nat} {R : gR} {μ : gM} {L : List Value} {o : Nat} {a0 : Int32} (hk : gc_kd o = 11) : gc_W (gc_S d) cX11_years 11 0 R 34 L [.int a0, .ref o] μ ↔ gc_S d 75 [.ref o, .int a0] μ (fun v μ' => gc_W (gc_S d) cX11_years 11 0 R 37 L (v.toList ++ []) μ') := us_virt dX11_years_34 gn_11_88 gc_11_88_11 hk rfl rfl rfl rfl rfl
theorem u92_37 {d : Nat} {R : gR} {μ : gM} {L : List Value} {v : Int32}  : gc_W (gc_S d) cX11_years 11 0 R 37 L [.int v] μ ↔ R (some (.int v)) μ := us_iret dX11_years_37 rfl
theorem u92_38 {d : Nat} {R : gR} {μ : gM} {L : List Value} {st : List Value}   : gc_W (gc_S d) cX11_years 11 0 R 38 L st μ ↔ gc_W (gc_S d) cX11_years 11 0 R 39 L (.int 0 :: st) μ := us_iconst dX11_years_38 ci_iconst_0
theorem u92_39 {d : Nat} {R : gR} {μ : gM} {l0 l1 l2 : Value} {st : List Value} {x : Int32} (hs : gc_sk l2 = true) : gc_W (gc_S d) cX11_years 11 0 R 39 [l0, l1, l2] (.int x :: st) μ ↔ gc_W (gc_S d) cX11_years 11 0 R 40 [l0, l1, .int x] st μ := us_istore_n dX11_years_39 rfl hs
theorem u92_40 {d : Nat} {R : gR} {μ : gM} {l0 l1 : Value} {st : List Value} {x : Int32}  : gc_W (gc_S d) cX11_years 11 0 R 40 [l0, l1, .int x] st μ ↔ gc_W (gc_S d) cX11_years 11 0 R 41 [l0, l1, .int x] (.int x :: st) μ := us_iload_n dX11_years_40 rfl
theorem u92_41 {d : Nat} {R : gR} {μ : gM} {l0 l2 : Value} {st : List Value} {x : Int32}  : gc_W (gc_S d) cX11_years 11 0 R 41 [l0, .int x, l2] st μ ↔ gc_W (gc_S d) cX11_years 11 0 R 42 [l0, .int x, l2] (.int x :: st) μ := us_iload_n dX11_years_41 rfl
theorem u92_42 {d : Nat} {R : gR} {μ : gM} {L : List Value} {st : List Value} {x y : Int32}  : gc_W (gc_S d) cX11_years 11 0 R 42 L (.int y :: .int x :: st) μ ↔ if y ≤ x then gc_W (gc_S d) cX11_years 11 0 R 58 L st μ else gc_W (gc_S d) cX11_years 11 0 R 45 L st μ := us_icge dX11_years_42 rfl
theorem u92_45 {d : Nat} {R : gR} {μ : gM} {l1 l2 : Value} {st : List Value} {x : Nat}  : gc_W (gc_S d) cX11_years 11 0 R 45 [.ref x, l1, l2] st μ ↔ gc_W (gc_S d) cX11_years 11 0 R 46 [.ref x, l1, l2] (.ref x :: st) μ := us_aload_n dX11_years_45 rfl
theorem u92_46 {d : Nat} {R : gR} {μ : gM} {L : List Value} {st : List Value} {o : Nat} (hk : gc_kd o = 11) : gc_W (gc_S d) cX11_years 11 0 R 46 L (.ref o :: st) μ ↔ gc_W (gc_S d) cX11_years 11 0 R 49 L (gc_fv o 0 μ :: st) μ := us_getf dX11_years_46 gf_11_38 hk
theorem u92_49 {d : Nat} {R : gR} {μ : gM} {L : List Value} {o : Nat} (hk : gc_kd o = 0) : gc_W (gc_S d) cX11_years 11 0 R 49 L [.ref o] μ ↔ gc_S d 38 [.ref o] μ (fun v μ' => gc_W (gc_S d) cX11_years 11 0 R 52 L (v.toList ++ []) μ') := us_virt dX11_years_49 gn_11_189 gc_11_189_0 hk rfl rfl rfl rfl rfl
theorem u92_52 {d : Nat} {R : gR} {μ : gM} {l0 l1 : Value} {st : List Value} {x : Int32}  : gc_W (gc_S d) cX11_years 11 0 R 52 [l0, l1, .int x] st μ ↔ gc_W (gc_S d) cX11_years 11 0 R 55 [l0, l1, .int (x + 1)] st μ := us_iinc dX11_years_52 rfl ci_iinc_1
theorem u92_55 {d : Nat} {R : gR} {μ : gM} {L : List Value} {st : List Value}  : gc_W (gc_S d) cX11_years 11 0 R 55 L st μ ↔ gc_W (gc_S d) cX11_years 11 0 R 40 L st μ := us_goto dX11_years_55 rfl
theorem u92_58 {d : Nat} {R : gR} {μ : gM} {l1 l2 : Value} {st : List Value} {x : Nat}  : gc_W (gc_S d) cX11_years 11 0 R 58 [.ref x, l1, l2] st μ ↔ gc_W (gc_S d) cX11_years 11 0 R 59 [.ref x, l1, l2] (.ref x :: st) μ := us_aload_n dX11_years_58 rfl
theorem u92_59 {d : Nat} {R : gR} {μ : gM} {L : List Value} {st : List Value} {o : Nat} (hk : gc_kd o = 11) : gc_W (gc_S d) cX11_years 11 0 R 59 L (.ref o :: st) μ ↔ gc_W (gc_S d) cX11_years 11 0 R 62 L (gc_fv o 0 μ :: st) μ := us_getf dX11_years_59 gf_11_38 hk
theorem u92_62 {d : Nat} {R : gR} {μ : gM} {L : List Value} {o : Nat} (hk : gc_kd o = 0) : gc_W (gc_S d) cX11_years 11 0 R 62 L [.ref o] μ ↔ gc_S d 8 [.ref o] μ (fun v μ' => gc_W (gc_S d) cX11_years 11 0 R 65 L (v.toList ++ []) μ') := us_virt dX11_years_62 gn_11_192 gc_11_192_0 hk rfl rfl rfl rfl rfl
theorem u92_65 {d : Nat} {R : gR} {μ : gM} {L : List Value} {v : Int32}  : gc_W (gc_S d) cX11_years 11 0 R 65 L [.int v] μ ↔ R (some (.int v)) μ := us_iret dX11_years_65 rfl
theorem s92 {d : Nat} {R : gR} {μ : gM} {o : Nat} {a0 : Int32} : gc_S (d + 1) 92 [.ref o, .int a0] μ R ↔ gc_W (gc_S d) cX11_years 11 0 R 0 [.ref o, .int a0, .retAddr 0] [] μ := us_call (gm_92) rfl rfl
theorem dX11_loose_0 : decode cX11_loose 0 = .ok (.iload_n 1, 1) := by decide +kernel
theorem dX11_loose_1 : decode cX11_loose 1 = .ok (.iconst 1, 1) := by decide +kernel
theorem dX11_loose_2 : decode cX11_loose 2 = .ok (.if_icmp .lt 9, 3) := by decide +kernel
theorem dX11_loose_5 : decode cX11_loose 5 = .ok (.iload_n 1, 1) := by decide +kernel
theorem dX11_loose_6 : decode cX11_loose 6 = .ok (.bipush 40, 2) := by decide +kernel
theorem dX11_loose_8 : decode cX11_loose 8 = .ok (.if_icmp .le 9, 3) := by decide +kernel
theorem dX11_loose_11 : decode cX11_loose 11 = .ok (.aload_n 0, 1) := by decide +kernel
theorem dX11_loose_12 : decode cX11_loose 12 = .ok (.iconst 1, 1) := by decide +kernel
theorem dX11_loose_13 : decode cX11_loose 13 = .ok (.invokevirtual 88, 3) := by decide +kernel
theorem dX11_loose_16 : decode cX11_loose 16 = .ok (.ireturn, 1) := by decide +kernel
theorem dX11_loose_17 : decode cX11_loose 17 = .ok (.aload_n 0, 1) := by decide +kernel
theorem dX11_loose_18 : decode cX11_loose 18 = .ok (.getfield 38, 3) := by decide +kernel
theorem dX11_loose_21 : decode cX11_loose 21 = .ok (.getfield 149, 3) := by decide +kernel
theorem dX11_loose_24 : decode cX11_loose 24 = .ok (.iload_n 1, 1) := by decide +kernel
theorem dX11_loose_25 : decode cX11_loose 25 = .ok (.iadd, 1) := by decide +kernel
theorem dX11_loose_26 : decode cX11_loose 26 = .ok (.sipush 9999, 3) := by decide +kernel
theorem dX11_loose_29 : decode cX11_loose 29 = .ok (.if_icmp .le 9, 3) := by decide +kernel
theorem dX11_loose_32 : decode cX11_loose 32 = .ok (.aload_n 0, 1) := by decide +kernel
theorem dX11_loose_33 : decode cX11_loose 33 = .ok (.iconst 3, 1) := by decide +kernel
theorem dX11_loose_34 : decode cX11_loose 34 = .ok (.invokevirtual 88, 3) := by decide +kernel
theorem dX11_loose_37 : decode cX11_loose 37 = .ok (.ireturn, 1) := by decide +kernel
theorem dX11_loose_38 : decode cX11_loose 38 = .ok (.iconst 0, 1) := by decide +kernel
theorem dX11_loose_39 : decode cX11_loose 39 = .ok (.istore_n 2, 1) := by decide +kernel
theorem dX11_loose_40 : decode cX11_loose 40 = .ok (.iload_n 2, 1) := by decide +kernel
theorem dX11_loose_41 : decode cX11_loose 41 = .ok (.iload_n 1, 1) := by decide +kernel
theorem dX11_loose_42 : decode cX11_loose 42 = .ok (.if_icmp .ge 23, 3) := by decide +kernel
theorem dX11_loose_45 : decode cX11_loose 45 = .ok (.aload_n 0, 1) := by decide +kernel
theorem dX11_loose_46 : decode cX11_loose 46 = .ok (.getfield 38, 3) := by decide +kernel
theorem dX11_loose_49 : decode cX11_loose 49 = .ok (.invokevirtual 195, 3) := by decide +kernel
theorem dX11_loose_52 : decode cX11_loose 52 = .ok (.aload_n 0, 1) := by decide +kernel
theorem dX11_loose_53 : decode cX11_loose 53 = .ok (.getfield 38, 3) := by decide +kernel
theorem dX11_loose_56 : decode cX11_loose 56 = .ok (.invokevirtual 189, 3) := by decide +kernel
theorem dX11_loose_59 : decode cX11_loose 59 = .ok (.iinc 2 1, 3) := by decide +kernel
theorem dX11_loose_62 : decode cX11_loose 62 = .ok (.goto (-22), 3) := by decide +kernel
theorem dX11_loose_65 : decode cX11_loose 65 = .ok (.aload_n 0, 1) := by decide +kernel
theorem dX11_loose_66 : decode cX11_loose 66 = .ok (.getfield 38, 3) := by decide +kernel
theorem dX11_loose_69 : decode cX11_loose 69 = .ok (.invokevirtual 192, 3) := by decide +kernel
theorem dX11_loose_72 : decode cX11_loose 72 = .ok (.ireturn, 1) := by decide +kernel
theorem u93_0 {d : Nat} {R : gR} {μ : gM} {l0 l2 : Value} {st : List Value} {x : Int32}  : gc_W (gc_S d) cX11_loose 11 0 R 0 [l0, .int x, l2] st μ ↔ gc_W (gc_S d) cX11_loose 11 0 R 1 [l0, .int x, l2] (.int x :: st) μ := us_iload_n dX11_loose_0 rfl
theorem u93_1 {d : Nat} {R : gR} {μ : gM} {L : List Value} {st : List Value}   : gc_W (gc_S d) cX11_loose 11 0 R 1 L st μ ↔ gc_W (gc_S d) cX11_loose 11 0 R 2 L (.int 1 :: st) μ := us_iconst dX11_loose_1 ci_iconst_1
theorem u93_2 {d : Nat} {R : gR} {μ : gM} {L : List Value} {st : List Value} {x y : Int32}  : gc_W (gc_S d) cX11_loose 11 0 R 2 L (.int y :: .int x :: st) μ ↔ if x < y then gc_W (gc_S d) cX11_loose 11 0 R 11 L st μ else gc_W (gc_S d) cX11_loose 11 0 R 5 L st μ := us_iclt dX11_loose_2 rfl
theorem u93_5 {d : Nat} {R : gR} {μ : gM} {l0 l2 : Value} {st : List Value} {x : Int32}  : gc_W (gc_S d) cX11_loose 11 0 R 5 [l0, .int x, l2] st μ ↔ gc_W (gc_S d) cX11_loose 11 0 R 6 [l0, .int x, l2] (.int x :: st) μ := us_iload_n dX11_loose_5 rfl
theorem u93_6 {d : Nat} {R : gR} {μ : gM} {L : List Value} {st : List Value}   : gc_W (gc_S d) cX11_loose 11 0 R 6 L st μ ↔ gc_W (gc_S d) cX11_loose 11 0 R 8 L (.int 40 :: st) μ := us_bipush dX11_loose_6 ci_bipush_40
theorem u93_8 {d : Nat} {R : gR} {μ : gM} {L : List Value} {st : List Value} {x y : Int32}  : gc_W (gc_S d) cX11_loose 11 0 R 8 L (.int y :: .int x :: st) μ ↔ if x ≤ y then gc_W (gc_S d) cX11_loose 11 0 R 17 L st μ else gc_W (gc_S d) cX11_loose 11 0 R 11 L st μ := us_icle dX11_loose_8 rfl
theorem u93_11 {d : Nat} {R : gR} {μ : gM} {l1 l2 : Value} {st : List Value} {x : Nat}  : gc_W (gc_S d) cX11_loose 11 0 R 11 [.ref x, l1, l2] st μ ↔ gc_W (gc_S d) cX11_loose 11 0 R 12 [.ref x, l1, l2] (.ref x :: st) μ := us_aload_n dX11_loose_11 rfl
theorem u93_12 {d : Nat} {R : gR} {μ : gM} {L : List Value} {st : List Value}   : gc_W (gc_S d) cX11_loose 11 0 R 12 L st μ ↔ gc_W (gc_S d) cX11_loose 11 0 R 13 L (.int 1 :: st) μ := us_iconst dX11_loose_12 ci_iconst_1
theorem u93_13 {d : Nat} {R : gR} {μ : gM} {L : List Value} {o : Nat} {a0 : Int32} (hk : gc_kd o = 11) : gc_W (gc_S d) cX11_loose 11 0 R 13 L [.int a0, .ref o] μ ↔ gc_S d 75 [.ref o, .int a0] μ (fun v μ' => gc_W (gc_S d) cX11_loose 11 0 R 16 L (v.toList ++ []) μ') := us_virt dX11_loose_13 gn_11_88 gc_11_88_11 hk rfl rfl rfl rfl rfl
theorem u93_16 {d : Nat} {R : gR} {μ : gM} {L : List Value} {v : Int32}  : gc_W (gc_S d) cX11_loose 11 0 R 16 L [.int v] μ ↔ R (some (.int v)) μ := us_iret dX11_loose_16 rfl
theorem u93_17 {d : Nat} {R : gR} {μ : gM} {l1 l2 : Value} {st : List Value} {x : Nat}  : gc_W (gc_S d) cX11_loose 11 0 R 17 [.ref x, l1, l2] st μ ↔ gc_W (gc_S d) cX11_loose 11 0 R 18 [.ref x, l1, l2] (.ref x :: st) μ := us_aload_n dX11_loose_17 rfl
theorem u93_18 {d : Nat} {R : gR} {μ : gM} {L : List Value} {st : List Value} {o : Nat} (hk : gc_kd o = 11) : gc_W (gc_S d) cX11_loose 11 0 R 18 L (.ref o :: st) μ ↔ gc_W (gc_S d) cX11_loose 11 0 R 21 L (gc_fv o 0 μ :: st) μ := us_getf dX11_loose_18 gf_11_38 hk
theorem u93_21 {d : Nat} {R : gR} {μ : gM} {L : List Value} {st : List Value} {o : Nat} (hk : gc_kd o = 0) : gc_W (gc_S d) cX11_loose 11 0 R 21 L (.ref o :: st) μ ↔ gc_W (gc_S d) cX11_loose 11 0 R 24 L (gc_fv o 12 μ :: st) μ := us_getf dX11_loose_21 gf_11_149 hk
theorem u93_24 {d : Nat} {R : gR} {μ : gM} {l0 l2 : Value} {st : List Value} {x : Int32}  : gc_W (gc_S d) cX11_loose 11 0 R 24 [l0, .int x, l2] st μ ↔ gc_W (gc_S d) cX11_loose 11 0 R 25 [l0, .int x, l2] (.int x :: st) μ := us_iload_n dX11_loose_24 rfl
theorem u93_25 {d : Nat} {R : gR} {μ : gM} {L : List Value} {st : List Value} {x y : Int32}  : gc_W (gc_S d) cX11_loose 11 0 R 25 L (.int y :: .int x :: st) μ ↔ gc_W (gc_S d) cX11_loose 11 0 R 26 L (.int (x + y) :: st) μ := us_iadd dX11_loose_25
theorem u93_26 {d : Nat} {R : gR} {μ : gM} {L : List Value} {st : List Value}   : gc_W (gc_S d) cX11_loose 11 0 R 26 L st μ ↔ gc_W (gc_S d) cX11_loose 11 0 R 29 L (.int 9999 :: st) μ := us_sipush dX11_loose_26 ci_sipush_9999
theorem u93_29 {d : Nat} {R : gR} {μ : gM} {L : List Value} {st : List Value} {x y : Int32}  : gc_W (gc_S d) cX11_loose 11 0 R 29 L (.int y :: .int x :: st) μ ↔ if x ≤ y then gc_W (gc_S d) cX11_loose 11 0 R 38 L st μ else gc_W (gc_S d) cX11_loose 11 0 R 32 L st μ := us_icle dX11_loose_29 rfl
theorem u93_32 {d : Nat} {R : gR} {μ : gM} {l1 l2 : Value} {st : List Value} {x : Nat}  : gc_W (gc_S d) cX11_loose 11 0 R 32 [.ref x, l1, l2] st μ ↔ gc_W (gc_S d) cX11_loose 11 0 R 33 [.ref x, l1, l2] (.ref x :: st) μ := us_aload_n dX11_loose_32 rfl
theorem u93_33 {d : Nat} {R : gR} {μ : gM} {L : List Value} {st : List Value}   : gc_W (gc_S d) cX11_loose 11 0 R 33 L st μ ↔ gc_W (gc_S d) cX11_loose 11 0 R 34 L (.int 3 :: st) μ := us_iconst dX11_loose_33 ci_iconst_3
theorem u93_34 {d : Nat} {R : gR} {μ : gM} {L : List Value} {o : Nat} {a0 : Int32} (hk : gc_kd o = 11) : gc_W (gc_S d) cX11_loose 11 0 R 34 L [.int a0, .ref o] μ ↔ gc_S d 75 [.ref o, .int a0] μ (fun v μ' => gc_W (gc_S d) cX11_loose 11 0 R 37 L (v.toList ++ []) μ') := us_virt dX11_loose_34 gn_11_88 gc_11_88_11 hk rfl rfl rfl rfl rfl
theorem u93_37 {d : Nat} {R : gR} {μ : gM} {L : List Value} {v : Int32}  : gc_W (gc_S d) cX11_loose 11 0 R 37 L [.int v] μ ↔ R (some (.int v)) μ := us_iret dX11_loose_37 rfl
theorem u93_38 {d : Nat} {R : gR} {μ : gM} {L : List Value} {st : List Value}   : gc_W (gc_S d) cX11_loose 11 0 R 38 L st μ ↔ gc_W (gc_S d) cX11_loose 11 0 R 39 L (.int 0 :: st) μ := us_iconst dX11_loose_38 ci_iconst_0
theorem u93_39 {d : Nat} {R : gR} {μ : gM} {l0 l1 l2 : Value} {st : List Value} {x : Int32} (hs : gc_sk l2 = true) : gc_W (gc_S d) cX11_loose 11 0 R 39 [l0, l1, l2] (.int x :: st) μ ↔ gc_W (gc_S d) cX11_loose 11 0 R 40 [l0, l1, .int x] st μ := us_istore_n dX11_loose_39 rfl hs
theorem u93_40 {d : Nat} {R : gR} {μ : gM} {l0 l1 : Value} {st : List Value} {x : Int32}  : gc_W (gc_S d) cX11_loose 11 0 R 40 [l0, l1, .int x] st μ ↔ gc_W (gc_S d) cX11_loose 11 0 R 41 [l0, l1, .int x] (.int x :: st) μ := us_iload_n dX11_loose_40 rfl
theorem u93_41 {d : Nat} {R : gR} {μ : gM} {l0 l2 : Value} {st : List Value} {x : Int32}  : gc_W (gc_S d) cX11_loose 11 0 R 41 [l0, .int x, l2] st μ ↔ gc_W (gc_S d) cX11_loose 11 0 R 42 [l0, .int x, l2] (.int x :: st) μ := us_iload_n dX11_loose_41 rfl
theorem u93_42 {d : Nat} {R : gR} {μ : gM} {L : List Value} {st : List Value} {x y : Int32}  : gc_W (gc_S d) cX11_loose 11 0 R 42 L (.int y :: .int x :: st) μ ↔ if y ≤ x then gc_W (gc_S d) cX11_loose 11 0 R 65 L st μ else gc_W (gc_S d) cX11_loose 11 0 R 45 L st μ := us_icge dX11_loose_42 rfl
theorem u93_45 {d : Nat} {R : gR} {μ : gM} {l1 l2 : Value} {st : List Value} {x : Nat}  : gc_W (gc_S d) cX11_loose 11 0 R 45 [.ref x, l1, l2] st μ ↔ gc_W (gc_S d) cX11_loose 11 0 R 46 [.ref x, l1, l2] (.ref x :: st) μ := us_aload_n dX11_loose_45 rfl
theorem u93_46 {d : Nat} {R : gR} {μ : gM} {L : List Value} {st : List Value} {o : Nat} (hk : gc_kd o = 11) : gc_W (gc_S d) cX11_loose 11 0 R 46 L (.ref o :: st) μ ↔ gc_W (gc_S d) cX11_loose 11 0 R 49 L (gc_fv o 0 μ :: st) μ := us_getf dX11_loose_46 gf_11_38 hk
theorem u93_49 {d : Nat} {R : gR} {μ : gM} {L : List Value} {o : Nat} (hk : gc_kd o = 0) : gc_W (gc_S d) cX11_loose 11 0 R 49 L [.ref o] μ ↔ gc_S d 40 [.ref o] μ (fun v μ' => gc_W (gc_S d) cX11_loose 11 0 R 52 L (v.toList ++ []) μ') := us_virt dX11_loose_49 gn_11_195 gc_11_195_0 hk rfl rfl rfl rfl rfl
theorem u93_52 {d : Nat} {R : gR} {μ : gM} {l1 l2 : Value} {st : List Value} {x : Nat}  : gc_W (gc_S d) cX11_loose 11 0 R 52 [.ref x, l1, l2] st μ ↔ gc_W (gc_S d) cX11_loose 11 0 R 53 [.ref x, l1, l2] (.ref x :: st) μ := us_aload_n dX11_loose_52 rfl
theorem u93_53 {d : Nat} {R : gR} {μ : gM} {L : List Value} {st : List Value} {o : Nat} (hk : gc_kd o = 11) : gc_W (gc_S d) cX11_loose 11 0 R 53 L (.ref o :: st) μ ↔ gc_W (gc_S d) cX11_loose 11 0 R 56 L (gc_fv o 0 μ :: st) μ := us_getf dX11_loose_53 gf_11_38 hk
theorem u93_56 {d : Nat} {R : gR} {μ : gM} {L : List Value} {o : Nat} (hk : gc_kd o = 0) : gc_W (gc_S d) cX11_loose 11 0 R 56 L [.ref o] μ ↔ gc_S d 38 [.ref o] μ (fun v μ' => gc_W (gc_S d) cX11_loose 11 0 R 59 L (v.toList ++ []) μ') := us_virt dX11_loose_56 gn_11_189 gc_11_189_0 hk rfl rfl rfl rfl rfl
theorem u93_59 {d : Nat} {R : gR} {μ : gM} {l0 l1 : Value} {st : List Value} {x : Int32}  : gc_W (gc_S d) cX11_loose 11 0 R 59 [l0, l1, .int x] st μ ↔ gc_W (gc_S d) cX11_loose 11 0 R 62 [l0, l1, .int (x + 1)] st μ := us_iinc dX11_loose_59 rfl ci_iinc_1
theorem u93_62 {d : Nat} {R : gR} {μ : gM} {L : List Value} {st : List Value}  : gc_W (gc_S d) cX11_loose 11 0 R 62 L st μ ↔ gc_W (gc_S d) cX11_loose 11 0 R 40 L st μ := us_goto dX11_loose_62 rfl
theorem u93_65 {d : Nat} {R : gR} {μ : gM} {l1 l2 : Value} {st : List Value} {x : Nat}  : gc_W (gc_S d) cX11_loose 11 0 R 65 [.ref x, l1, l2] st μ ↔ gc_W (gc_S d) cX11_loose 11 0 R 66 [.ref x, l1, l2] (.ref x :: st) μ := us_aload_n dX11_loose_65 rfl
theorem u93_66 {d : Nat} {R : gR} {μ : gM} {L : List Value} {st : List Value} {o : Nat} (hk : gc_kd o = 11) : gc_W (gc_S d) cX11_loose 11 0 R 66 L (.ref o :: st) μ ↔ gc_W (gc_S d) cX11_loose 11 0 R 69 L (gc_fv o 0 μ :: st) μ := us_getf dX11_loose_66 gf_11_38 hk
theorem u93_69 {d : Nat} {R : gR} {μ : gM} {L : List Value} {o : Nat} (hk : gc_kd o = 0) : gc_W (gc_S d) cX11_loose 11 0 R 69 L [.ref o] μ ↔ gc_S d 8 [.ref o] μ (fun v μ' => gc_W (gc_S d) cX11_loose 11 0 R 72 L (v.toList ++ []) μ') := us_virt dX11_loose_69 gn_11_192 gc_11_192_0 hk rfl rfl rfl rfl rfl
theorem u93_72 {d : Nat} {R : gR} {μ : gM} {L : List Value} {v : Int32}  : gc_W (gc_S d) cX11_loose 11 0 R 72 L [.int v] μ ↔ R (some (.int v)) μ := us_iret dX11_loose_72 rfl
theorem s93 {d : Nat} {R : gR} {μ : gM} {o : Nat} {a0 : Int32} : gc_S (d + 1) 93 [.ref o, .int a0] μ R ↔ gc_W (gc_S d) cX11_loose 11 0 R 0 [.ref o, .int a0, .retAddr 0] [] μ := us_call (gm_93) rfl rfl
theorem dX11_thinkBehind_0 : decode cX11_thinkBehind 0 = .ok (.aload_n 0, 1) := by decide +kernel
theorem dX11_thinkBehind_1 : decode cX11_thinkBehind 1 = .ok (.getfield 42, 3) := by decide +kernel
theorem dX11_thinkBehind_4 : decode cX11_thinkBehind 4 = .ok (.aload_n 0, 1) := by decide +kernel
theorem dX11_thinkBehind_5 : decode cX11_thinkBehind 5 = .ok (.getfield 38, 3) := by decide +kernel
theorem dX11_thinkBehind_8 : decode cX11_thinkBehind 8 = .ok (.invokevirtual 307, 3) := by decide +kernel
theorem dX11_thinkBehind_11 : decode cX11_thinkBehind 11 = .ok (.iconst 0, 1) := by decide +kernel
theorem dX11_thinkBehind_12 : decode cX11_thinkBehind 12 = .ok (.istore_n 2, 1) := by decide +kernel
theorem dX11_thinkBehind_13 : decode cX11_thinkBehind 13 = .ok (.iload_n 2, 1) := by decide +kernel
theorem dX11_thinkBehind_14 : decode cX11_thinkBehind 14 = .ok (.iload_n 1, 1) := by decide +kernel
theorem dX11_thinkBehind_15 : decode cX11_thinkBehind 15 = .ok (.if_icmp .ge 16, 3) := by decide +kernel
theorem dX11_thinkBehind_18 : decode cX11_thinkBehind 18 = .ok (.aload_n 0, 1) := by decide +kernel
theorem dX11_thinkBehind_19 : decode cX11_thinkBehind 19 = .ok (.getfield 42, 3) := by decide +kernel
theorem dX11_thinkBehind_22 : decode cX11_thinkBehind 22 = .ok (.invokevirtual 189, 3) := by decide +kernel
theorem dX11_thinkBehind_25 : decode cX11_thinkBehind 25 = .ok (.iinc 2 1, 3) := by decide +kernel
theorem dX11_thinkBehind_28 : decode cX11_thinkBehind 28 = .ok (.goto (-15), 3) := by decide +kernel
theorem dX11_thinkBehind_31 : decode cX11_thinkBehind 31 = .ok (.return_, 1) := by decide +kernel
theorem u94_0 {d : Nat} {R : gR} {μ : gM} {l1 l2 : Value} {st : List Value} {x : Nat}  : gc_W (gc_S d) cX11_thinkBehind 11 2 R 0 [.ref x, l1, l2] st μ ↔ gc_W (gc_S d) cX11_thinkBehind 11 2 R 1 [.ref x, l1, l2] (.ref x :: st) μ := us_aload_n dX11_thinkBehind_0 rfl
theorem u94_1 {d : Nat} {R : gR} {μ : gM} {L : List Value} {st : List Value} {o : Nat} (hk : gc_kd o = 11) : gc_W (gc_S d) cX11_thinkBehind 11 2 R 1 L (.ref o :: st) μ ↔ gc_W (gc_S d) cX11_thinkBehind 11 2 R 4 L (gc_fv o 1 μ :: st) μ := us_getf dX11_thinkBehind_1 gf_11_42 hk
theorem u94_4 {d : Nat} {R : gR} {μ : gM} {l1 l2 : Value} {st : List Value} {x : Nat}  : gc_W (gc_S d) cX11_thinkBehind 11 2 R 4 [.ref x, l1, l2] st μ ↔ gc_W (gc_S d) cX11_thinkBehind 11 2 R 5 [.ref x, l1, l2] (.ref x :: st) μ := us_aload_n dX11_thinkBehind_4 rfl
theorem u94_5 {d : Nat} {R : gR} {μ : gM} {L : List Value} {st : List Value} {o : Nat} (hk : gc_kd o = 11) : gc_W (gc_S d) cX11_thinkBehind 11 2 R 5 L (.ref o :: st) μ ↔ gc_W (gc_S d) cX11_thinkBehind 11 2 R 8 L (gc_fv o 0 μ :: st) μ := us_getf dX11_thinkBehind_5 gf_11_38 hk
theorem u94_8 {d : Nat} {R : gR} {μ : gM} {L : List Value} {o : Nat} {a0 : Nat} (hk : gc_kd o = 0) : gc_W (gc_S d) cX11_thinkBehind 11 2 R 8 L [.ref a0, .ref o] μ ↔ gc_S d 0 [.ref o, .ref a0] μ (fun v μ' => gc_W (gc_S d) cX11_thinkBehind 11 2 R 11 L (v.toList ++ []) μ') := us_virt dX11_thinkBehind_8 gn_11_307 gc_11_307_0 hk rfl rfl rfl rfl rfl
theorem u94_11 {d : Nat} {R : gR} {μ : gM} {L : List Value} {st : List Value}   : gc_W (gc_S d) cX11_thinkBehind 11 2 R 11 L st μ ↔ gc_W (gc_S d) cX11_thinkBehind 11 2 R 12 L (.int 0 :: st) μ := us_iconst dX11_thinkBehind_11 ci_iconst_0
theorem u94_12 {d : Nat} {R : gR} {μ : gM} {l0 l1 l2 : Value} {st : List Value} {x : Int32} (hs : gc_sk l2 = true) : gc_W (gc_S d) cX11_thinkBehind 11 2 R 12 [l0, l1, l2] (.int x :: st) μ ↔ gc_W (gc_S d) cX11_thinkBehind 11 2 R 13 [l0, l1, .int x] st μ := us_istore_n dX11_thinkBehind_12 rfl hs
theorem u94_13 {d : Nat} {R : gR} {μ : gM} {l0 l1 : Value} {st : List Value} {x : Int32}  : gc_W (gc_S d) cX11_thinkBehind 11 2 R 13 [l0, l1, .int x] st μ ↔ gc_W (gc_S d) cX11_thinkBehind 11 2 R 14 [l0, l1, .int x] (.int x :: st) μ := us_iload_n dX11_thinkBehind_13 rfl
theorem u94_14 {d : Nat} {R : gR} {μ : gM} {l0 l2 : Value} {st : List Value} {x : Int32}  : gc_W (gc_S d) cX11_thinkBehind 11 2 R 14 [l0, .int x, l2] st μ ↔ gc_W (gc_S d) cX11_thinkBehind 11 2 R 15 [l0, .int x, l2] (.int x :: st) μ := us_iload_n dX11_thinkBehind_14 rfl
theorem u94_15 {d : Nat} {R : gR} {μ : gM} {L : List Value} {st : List Value} {x y : Int32}  : gc_W (gc_S d) cX11_thinkBehind 11 2 R 15 L (.int y :: .int x :: st) μ ↔ if y ≤ x then gc_W (gc_S d) cX11_thinkBehind 11 2 R 31 L st μ else gc_W (gc_S d) cX11_thinkBehind 11 2 R 18 L st μ := us_icge dX11_thinkBehind_15 rfl
theorem u94_18 {d : Nat} {R : gR} {μ : gM} {l1 l2 : Value} {st : List Value} {x : Nat}  : gc_W (gc_S d) cX11_thinkBehind 11 2 R 18 [.ref x, l1, l2] st μ ↔ gc_W (gc_S d) cX11_thinkBehind 11 2 R 19 [.ref x, l1, l2] (.ref x :: st) μ := us_aload_n dX11_thinkBehind_18 rfl
theorem u94_19 {d : Nat} {R : gR} {μ : gM} {L : List Value} {st : List Value} {o : Nat} (hk : gc_kd o = 11) : gc_W (gc_S d) cX11_thinkBehind 11 2 R 19 L (.ref o :: st) μ ↔ gc_W (gc_S d) cX11_thinkBehind 11 2 R 22 L (gc_fv o 1 μ :: st) μ := us_getf dX11_thinkBehind_19 gf_11_42 hk
theorem u94_22 {d : Nat} {R : gR} {μ : gM} {L : List Value} {o : Nat} (hk : gc_kd o = 0) : gc_W (gc_S d) cX11_thinkBehind 11 2 R 22 L [.ref o] μ ↔ gc_S d 38 [.ref o] μ (fun v μ' => gc_W (gc_S d) cX11_thinkBehind 11 2 R 25 L (v.toList ++ []) μ') := us_virt dX11_thinkBehind_22 gn_11_189 gc_11_189_0 hk rfl rfl rfl rfl rfl
theorem u94_25 {d : Nat} {R : gR} {μ : gM} {l0 l1 : Value} {st : List Value} {x : Int32}  : gc_W (gc_S d) cX11_thinkBehind 11 2 R 25 [l0, l1, .int x] st μ ↔ gc_W (gc_S d) cX11_thinkBehind 11 2 R 28 [l0, l1, .int (x + 1)] st μ := us_iinc dX11_thinkBehind_25 rfl ci_iinc_1
theorem u94_28 {d : Nat} {R : gR} {μ : gM} {L : List Value} {st : List Value}  : gc_W (gc_S d) cX11_thinkBehind 11 2 R 28 L st μ ↔ gc_W (gc_S d) cX11_thinkBehind 11 2 R 13 L st μ := us_goto dX11_thinkBehind_28 rfl
theorem u94_31 {d : Nat} {R : gR} {μ : gM} {L : List Value}   : gc_W (gc_S d) cX11_thinkBehind 11 2 R 31 L [] μ ↔ R none μ := us_vret dX11_thinkBehind_31 rfl
theorem s94 {d : Nat} {R : gR} {μ : gM} {o : Nat} {a0 : Int32} : gc_S (d + 1) 94 [.ref o, .int a0] μ R ↔ gc_W (gc_S d) cX11_thinkBehind 11 2 R 0 [.ref o, .int a0, .retAddr 0] [] μ := us_call (gm_94) rfl rfl
theorem dX11_then_0 : decode cX11_then 0 = .ok (.bipush 60, 2) := by decide +kernel
theorem dX11_then_2 : decode cX11_then 2 = .ok (.iload_n 1, 1) := by decide +kernel
theorem dX11_then_3 : decode cX11_then 3 = .ok (.invokestatic 84, 3) := by decide +kernel
theorem dX11_then_6 : decode cX11_then 6 = .ok (.ifCond .eq 10, 3) := by decide +kernel
theorem dX11_then_9 : decode cX11_then 9 = .ok (.iload_n 2, 1) := by decide +kernel
theorem dX11_then_10 : decode cX11_then 10 = .ok (.invokestatic 80, 3) := by decide +kernel
theorem dX11_then_13 : decode cX11_then 13 = .ok (.ifCond .ne 9, 3) := by decide +kernel
theorem dX11_then_16 : decode cX11_then 16 = .ok (.aload_n 0, 1) := by decide +kernel
theorem dX11_then_17 : decode cX11_then 17 = .ok (.iconst 1, 1) := by decide +kernel
theorem dX11_then_18 : decode cX11_then 18 = .ok (.invokevirtual 88, 3) := by decide +kernel
theorem dX11_then_21 : decode cX11_then 21 = .ok (.ireturn, 1) := by decide +kernel
theorem dX11_then_22 : decode cX11_then 22 = .ok (.aload_n 0, 1) := by decide +kernel
theorem dX11_then_23 : decode cX11_then 23 = .ok (.iload_n 1, 1) := by decide +kernel
theorem dX11_then_24 : decode cX11_then 24 = .ok (.invokevirtual 198, 3) := by decide +kernel
theorem dX11_then_27 : decode cX11_then 27 = .ok (.aload_n 0, 1) := by decide +kernel
theorem dX11_then_28 : decode cX11_then 28 = .ok (.getfield 42, 3) := by decide +kernel
theorem dX11_then_31 : decode cX11_then 31 = .ok (.getfield 92, 3) := by decide +kernel
theorem dX11_then_34 : decode cX11_then 34 = .ok (.iload_n 2, 1) := by decide +kernel
theorem dX11_then_35 : decode cX11_then 35 = .ok (.iaload, 1) := by decide +kernel
theorem dX11_then_36 : decode cX11_then 36 = .ok (.ireturn, 1) := by decide +kernel
theorem u95_0 {d : Nat} {R : gR} {μ : gM} {L : List Value} {st : List Value}   : gc_W (gc_S d) cX11_then 11 0 R 0 L st μ ↔ gc_W (gc_S d) cX11_then 11 0 R 2 L (.int 60 :: st) μ := us_bipush dX11_then_0 ci_bipush_60
theorem u95_2 {d : Nat} {R : gR} {μ : gM} {l0 l2 : Value} {st : List Value} {x : Int32}  : gc_W (gc_S d) cX11_then 11 0 R 2 [l0, .int x, l2] st μ ↔ gc_W (gc_S d) cX11_then 11 0 R 3 [l0, .int x, l2] (.int x :: st) μ := us_iload_n dX11_then_2 rfl
theorem u95_3 {d : Nat} {R : gR} {μ : gM} {L : List Value}  {a0 a1 : Int32}  : gc_W (gc_S d) cX11_then 11 0 R 3 L [.int a1, .int a0] μ ↔ gc_S d 73 [.int a0, .int a1] μ (fun v μ' => gc_W (gc_S d) cX11_then 11 0 R 6 L (v.toList ++ []) μ') := us_stat dX11_then_3 gs_11_84 gne_11_84 gn_11_84 gc_11_84_97 rfl rfl rfl rfl
theorem u95_6 {d : Nat} {R : gR} {μ : gM} {L : List Value} {st : List Value} {x : Int32}  : gc_W (gc_S d) cX11_then 11 0 R 6 L (.int x :: st) μ ↔ if x = 0 then gc_W (gc_S d) cX11_then 11 0 R 16 L st μ else gc_W (gc_S d) cX11_then 11 0 R 9 L st μ := us_ifeq dX11_then_6 rfl
theorem u95_9 {d : Nat} {R : gR} {μ : gM} {l0 l1 : Value} {st : List Value} {x : Int32}  : gc_W (gc_S d) cX11_then 11 0 R 9 [l0, l1, .int x] st μ ↔ gc_W (gc_S d) cX11_then 11 0 R 10 [l0, l1, .int x] (.int x :: st) μ := us_iload_n dX11_then_9 rfl
theorem u95_10 {d : Nat} {R : gR} {μ : gM} {L : List Value}  {a0 : Int32}  : gc_W (gc_S d) cX11_then 11 0 R 10 L [.int a0] μ ↔ gc_S d 74 [.int a0] μ (fun v μ' => gc_W (gc_S d) cX11_then 11 0 R 13 L (v.toList ++ []) μ') := us_stat dX11_then_10 gs_11_80 gne_11_80 gn_11_80 gc_11_80_97 rfl rfl rfl rfl
theorem u95_13 {d : Nat} {R : gR} {μ : gM} {L : List Value} {st : List Value} {x : Int32}  : gc_W (gc_S d) cX11_then 11 0 R 13 L (.int x :: st) μ ↔ if x = 0 then gc_W (gc_S d) cX11_then 11 0 R 16 L st μ else gc_W (gc_S d) cX11_then 11 0 R 22 L st μ := us_ifne dX11_then_13 rfl
theorem u95_16 {d : Nat} {R : gR} {μ : gM} {l1 l2 : Value} {st : List Value} {x : Nat}  : gc_W (gc_S d) cX11_then 11 0 R 16 [.ref x, l1, l2] st μ ↔ gc_W (gc_S d) cX11_then 11 0 R 17 [.ref x, l1, l2] (.ref x :: st) μ := us_aload_n dX11_then_16 rfl
theorem u95_17 {d : Nat} {R : gR} {μ : gM} {L : List Value} {st : List Value}   : gc_W (gc_S d) cX11_then 11 0 R 17 L st μ ↔ gc_W (gc_S d) cX11_then 11 0 R 18 L (.int 1 :: st) μ := us_iconst dX11_then_17 ci_iconst_1
theorem u95_18 {d : Nat} {R : gR} {μ : gM} {L : List Value} {o : Nat} {a0 : Int32} (hk : gc_kd o = 11) : gc_W (gc_S d) cX11_then 11 0 R 18 L [.int a0, .ref o] μ ↔ gc_S d 75 [.ref o, .int a0] μ (fun v μ' => gc_W (gc_S d) cX11_then 11 0 R 21 L (v.toList ++ []) μ') := us_virt dX11_then_18 gn_11_88 gc_11_88_11 hk rfl rfl rfl rfl rfl
theorem u95_21 {d : Nat} {R : gR} {μ : gM} {L : List Value} {v : Int32}  : gc_W (gc_S d) cX11_then 11 0 R 21 L [.int v] μ ↔ R (some (.int v)) μ := us_iret dX11_then_21 rfl
theorem u95_22 {d : Nat} {R : gR} {μ : gM} {l1 l2 : Value} {st : List Value} {x : Nat}  : gc_W (gc_S d) cX11_then 11 0 R 22 [.ref x, l1, l2] st μ ↔ gc_W (gc_S d) cX11_then 11 0 R 23 [.ref x, l1, l2] (.ref x :: st) μ := us_aload_n dX11_then_22 rfl
theorem u95_23 {d : Nat} {R : gR} {μ : gM} {l0 l2 : Value} {st : List Value} {x : Int32}  : gc_W (gc_S d) cX11_then 11 0 R 23 [l0, .int x, l2] st μ ↔ gc_W (gc_S d) cX11_then 11 0 R 24 [l0, .int x, l2] (.int x :: st) μ := us_iload_n dX11_then_23 rfl
theorem u95_24 {d : Nat} {R : gR} {μ : gM} {L : List Value} {o : Nat} {a0 : Int32} (hk : gc_kd o = 11) : gc_W (gc_S d) cX11_then 11 0 R 24 L [.int a0, .ref o] μ ↔ gc_S d 94 [.ref o, .int a0] μ (fun v μ' => gc_W (gc_S d) cX11_then 11 0 R 27 L (v.toList ++ []) μ') := us_virt dX11_then_24 gn_11_198 gc_11_198_11 hk rfl rfl rfl rfl rfl
theorem u95_27 {d : Nat} {R : gR} {μ : gM} {l1 l2 : Value} {st : List Value} {x : Nat}  : gc_W (gc_S d) cX11_then 11 0 R 27 [.ref x, l1, l2] st μ ↔ gc_W (gc_S d) cX11_then 11 0 R 28 [.ref x, l1, l2] (.ref x :: st) μ := us_aload_n dX11_then_27 rfl
theorem u95_28 {d : Nat} {R : gR} {μ : gM} {L : List Value} {st : List Value} {o : Nat} (hk : gc_kd o = 11) : gc_W (gc_S d) cX11_then 11 0 R 28 L (.ref o :: st) μ ↔ gc_W (gc_S d) cX11_then 11 0 R 31 L (gc_fv o 1 μ :: st) μ := us_getf dX11_then_28 gf_11_42 hk
theorem u95_31 {d : Nat} {R : gR} {μ : gM} {L : List Value} {st : List Value} {o : Nat} (hk : gc_kd o = 0) : gc_W (gc_S d) cX11_then 11 0 R 31 L (.ref o :: st) μ ↔ gc_W (gc_S d) cX11_then 11 0 R 34 L (gc_fv o 2 μ :: st) μ := us_getf dX11_then_31 gf_11_92 hk
theorem u95_34 {d : Nat} {R : gR} {μ : gM} {l0 l1 : Value} {st : List Value} {x : Int32}  : gc_W (gc_S d) cX11_then 11 0 R 34 [l0, l1, .int x] st μ ↔ gc_W (gc_S d) cX11_then 11 0 R 35 [l0, l1, .int x] (.int x :: st) μ := us_iload_n dX11_then_34 rfl
theorem u95_35 {d : Nat} {R : gR} {μ : gM} {L : List Value} {st : List Value} {o : Nat} {i : Int32} (hk : gc_kd o = 20) : gc_W (gc_S d) cX11_then 11 0 R 35 L (.int i :: .ref o :: st) μ ↔ (vp_in i (gc_al o) ∧ gc_W (gc_S d) cX11_then 11 0 R 36 L (.int (μ o i.toNatClampNeg) :: st) μ) := us_iald dX11_then_35 hk
theorem u95_36 {d : Nat} {R : gR} {μ : gM} {L : List Value} {v : Int32}  : gc_W (gc_S d) cX11_then 11 0 R 36 L [.int v] μ ↔ R (some (.int v)) μ := us_iret dX11_then_36 rfl
theorem s95 {d : Nat} {R : gR} {μ : gM} {o : Nat} {a0 a1 : Int32} : gc_S (d + 1) 95 [.ref o, .int a0, .int a1] μ R ↔ gc_W (gc_S d) cX11_then 11 0 R 0 [.ref o, .int a0, .int a1] [] μ := us_call (gm_95) rfl rfl
theorem dX11_all_0 : decode cX11_all 0 = .ok (.bipush 60, 2) := by decide +kernel
theorem dX11_all_2 : decode cX11_all 2 = .ok (.iload_n 1, 1) := by decide +kernel
theorem dX11_all_3 : decode cX11_all 3 = .ok (.invokestatic 84, 3) := by decide +kernel
theorem dX11_all_6 : decode cX11_all 6 = .ok (.ifCond .eq 11, 3) := by decide +kernel
theorem dX11_all_9 : decode cX11_all 9 = .ok (.iconst 2, 1) := by decide +kernel
theorem dX11_all_10 : decode cX11_all 10 = .ok (.iload_n 2, 1) := by decide +kernel
theorem dX11_all_11 : decode cX11_all 11 = .ok (.invokestatic 84, 3) := by decide +kernel
theorem dX11_all_14 : decode cX11_all 14 = .ok (.ifCond .ne 9, 3) := by decide +kernel
theorem dX11_all_17 : decode cX11_all 17 = .ok (.aload_n 0, 1) := by decide +kernel
theorem dX11_all_18 : decode cX11_all 18 = .ok (.iconst 1, 1) := by decide +kernel
theorem dX11_all_19 : decode cX11_all 19 = .ok (.invokevirtual 88, 3) := by decide +kernel
theorem dX11_all_22 : decode cX11_all 22 = .ok (.ireturn, 1) := by decide +kernel
theorem dX11_all_23 : decode cX11_all 23 = .ok (.aload_n 0, 1) := by decide +kernel
theorem dX11_all_24 : decode cX11_all 24 = .ok (.iload_n 1, 1) := by decide +kernel
theorem dX11_all_25 : decode cX11_all 25 = .ok (.invokevirtual 198, 3) := by decide +kernel
theorem dX11_all_28 : decode cX11_all 28 = .ok (.iload_n 2, 1) := by decide +kernel
theorem dX11_all_29 : decode cX11_all 29 = .ok (.lookupswitch 43 #[(0, 27), (1, 35)], 27) := by decide +kernel
theorem dX11_all_56 : decode cX11_all 56 = .ok (.aload_n 0, 1) := by decide +kernel
theorem dX11_all_57 : decode cX11_all 57 = .ok (.getfield 42, 3) := by decide +kernel
theorem dX11_all_60 : decode cX11_all 60 = .ok (.invokevirtual 192, 3) := by decide +kernel
theorem dX11_all_63 : decode cX11_all 63 = .ok (.ireturn, 1) := by decide +kernel
theorem dX11_all_64 : decode cX11_all 64 = .ok (.aload_n 0, 1) := by decide +kernel
theorem dX11_all_65 : decode cX11_all 65 = .ok (.getfield 42, 3) := by decide +kernel
theorem dX11_all_68 : decode cX11_all 68 = .ok (.invokevirtual 201, 3) := by decide +kernel
theorem dX11_all_71 : decode cX11_all 71 = .ok (.ireturn, 1) := by decide +kernel
theorem dX11_all_72 : decode cX11_all 72 = .ok (.aload_n 0, 1) := by decide +kernel
theorem dX11_all_73 : decode cX11_all 73 = .ok (.getfield 42, 3) := by decide +kernel
theorem dX11_all_76 : decode cX11_all 76 = .ok (.invokevirtual 204, 3) := by decide +kernel
theorem dX11_all_79 : decode cX11_all 79 = .ok (.invokestatic 109, 3) := by decide +kernel
theorem dX11_all_82 : decode cX11_all 82 = .ok (.ireturn, 1) := by decide +kernel
theorem u96_0 {d : Nat} {R : gR} {μ : gM} {L : List Value} {st : List Value}   : gc_W (gc_S d) cX11_all 11 0 R 0 L st μ ↔ gc_W (gc_S d) cX11_all 11 0 R 2 L (.int 60 :: st) μ := us_bipush dX11_all_0 ci_bipush_60
theorem u96_2 {d : Nat} {R : gR} {μ : gM} {l0 l2 : Value} {st : List Value} {x : Int32}  : gc_W (gc_S d) cX11_all 11 0 R 2 [l0, .int x, l2] st μ ↔ gc_W (gc_S d) cX11_all 11 0 R 3 [l0, .int x, l2] (.int x :: st) μ := us_iload_n dX11_all_2 rfl
theorem u96_3 {d : Nat} {R : gR} {μ : gM} {L : List Value}  {a0 a1 : Int32}  : gc_W (gc_S d) cX11_all 11 0 R 3 L [.int a1, .int a0] μ ↔ gc_S d 73 [.int a0, .int a1] μ (fun v μ' => gc_W (gc_S d) cX11_all 11 0 R 6 L (v.toList ++ []) μ') := us_stat dX11_all_3 gs_11_84 gne_11_84 gn_11_84 gc_11_84_97 rfl rfl rfl rfl
theorem u96_6 {d : Nat} {R : gR} {μ : gM} {L : List Value} {st : List Value} {x : Int32}  : gc_W (gc_S d) cX11_all 11 0 R 6 L (.int x :: st) μ ↔ if x = 0 then gc_W (gc_S d) cX11_all 11 0 R 17 L st μ else gc_W (gc_S d) cX11_all 11 0 R 9 L st μ := us_ifeq dX11_all_6 rfl
theorem u96_9 {d : Nat} {R : gR} {μ : gM} {L : List Value} {st : List Value}   : gc_W (gc_S d) cX11_all 11 0 R 9 L st μ ↔ gc_W (gc_S d) cX11_all 11 0 R 10 L (.int 2 :: st) μ := us_iconst dX11_all_9 ci_iconst_2
theorem u96_10 {d : Nat} {R : gR} {μ : gM} {l0 l1 : Value} {st : List Value} {x : Int32}  : gc_W (gc_S d) cX11_all 11 0 R 10 [l0, l1, .int x] st μ ↔ gc_W (gc_S d) cX11_all 11 0 R 11 [l0, l1, .int x] (.int x :: st) μ := us_iload_n dX11_all_10 rfl
theorem u96_11 {d : Nat} {R : gR} {μ : gM} {L : List Value}  {a0 a1 : Int32}  : gc_W (gc_S d) cX11_all 11 0 R 11 L [.int a1, .int a0] μ ↔ gc_S d 73 [.int a0, .int a1] μ (fun v μ' => gc_W (gc_S d) cX11_all 11 0 R 14 L (v.toList ++ []) μ') := us_stat dX11_all_11 gs_11_84 gne_11_84 gn_11_84 gc_11_84_97 rfl rfl rfl rfl
theorem u96_14 {d : Nat} {R : gR} {μ : gM} {L : List Value} {st : List Value} {x : Int32}  : gc_W (gc_S d) cX11_all 11 0 R 14 L (.int x :: st) μ ↔ if x = 0 then gc_W (gc_S d) cX11_all 11 0 R 17 L st μ else gc_W (gc_S d) cX11_all 11 0 R 23 L st μ := us_ifne dX11_all_14 rfl
theorem u96_17 {d : Nat} {R : gR} {μ : gM} {l1 l2 : Value} {st : List Value} {x : Nat}  : gc_W (gc_S d) cX11_all 11 0 R 17 [.ref x, l1, l2] st μ ↔ gc_W (gc_S d) cX11_all 11 0 R 18 [.ref x, l1, l2] (.ref x :: st) μ := us_aload_n dX11_all_17 rfl
theorem u96_18 {d : Nat} {R : gR} {μ : gM} {L : List Value} {st : List Value}   : gc_W (gc_S d) cX11_all 11 0 R 18 L st μ ↔ gc_W (gc_S d) cX11_all 11 0 R 19 L (.int 1 :: st) μ := us_iconst dX11_all_18 ci_iconst_1
theorem u96_19 {d : Nat} {R : gR} {μ : gM} {L : List Value} {o : Nat} {a0 : Int32} (hk : gc_kd o = 11) : gc_W (gc_S d) cX11_all 11 0 R 19 L [.int a0, .ref o] μ ↔ gc_S d 75 [.ref o, .int a0] μ (fun v μ' => gc_W (gc_S d) cX11_all 11 0 R 22 L (v.toList ++ []) μ') := us_virt dX11_all_19 gn_11_88 gc_11_88_11 hk rfl rfl rfl rfl rfl
theorem u96_22 {d : Nat} {R : gR} {μ : gM} {L : List Value} {v : Int32}  : gc_W (gc_S d) cX11_all 11 0 R 22 L [.int v] μ ↔ R (some (.int v)) μ := us_iret dX11_all_22 rfl
theorem u96_23 {d : Nat} {R : gR} {μ : gM} {l1 l2 : Value} {st : List Value} {x : Nat}  : gc_W (gc_S d) cX11_all 11 0 R 23 [.ref x, l1, l2] st μ ↔ gc_W (gc_S d) cX11_all 11 0 R 24 [.ref x, l1, l2] (.ref x :: st) μ := us_aload_n dX11_all_23 rfl
theorem u96_24 {d : Nat} {R : gR} {μ : gM} {l0 l2 : Value} {st : List Value} {x : Int32}  : gc_W (gc_S d) cX11_all 11 0 R 24 [l0, .int x, l2] st μ ↔ gc_W (gc_S d) cX11_all 11 0 R 25 [l0, .int x, l2] (.int x :: st) μ := us_iload_n dX11_all_24 rfl
theorem u96_25 {d : Nat} {R : gR} {μ : gM} {L : List Value} {o : Nat} {a0 : Int32} (hk : gc_kd o = 11) : gc_W (gc_S d) cX11_all 11 0 R 25 L [.int a0, .ref o] μ ↔ gc_S d 94 [.ref o, .int a0] μ (fun v μ' => gc_W (gc_S d) cX11_all 11 0 R 28 L (v.toList ++ []) μ') := us_virt dX11_all_25 gn_11_198 gc_11_198_11 hk rfl rfl rfl rfl rfl
theorem u96_28 {d : Nat} {R : gR} {μ : gM} {l0 l1 : Value} {st : List Value} {x : Int32}  : gc_W (gc_S d) cX11_all 11 0 R 28 [l0, l1, .int x] st μ ↔ gc_W (gc_S d) cX11_all 11 0 R 29 [l0, l1, .int x] (.int x :: st) μ := us_iload_n dX11_all_28 rfl
theorem u96_29 {d : Nat} {R : gR} {μ : gM} {L : List Value} {st : List Value} {x : Int32}  : gc_W (gc_S d) cX11_all 11 0 R 29 L (.int x :: st) μ ↔ if x = 0 then gc_W (gc_S d) cX11_all 11 0 R 56 L st μ else (if x = 1 then gc_W (gc_S d) cX11_all 11 0 R 64 L st μ else (gc_W (gc_S d) cX11_all 11 0 R 72 L st μ)) := us_lsw [(0, 56), (1, 64)] dX11_all_29 (by decide +kernel) (by decide +kernel) (dt := 72) rfl
theorem u96_56 {d : Nat} {R : gR} {μ : gM} {l1 l2 : Value} {st : List Value} {x : Nat}  : gc_W (gc_S d) cX11_all 11 0 R 56 [.ref x, l1, l2] st μ ↔ gc_W (gc_S d) cX11_all 11 0 R 57 [.ref x, l1, l2] (.ref x :: st) μ := us_aload_n dX11_all_56 rfl
theorem u96_57 {d : Nat} {R : gR} {μ : gM} {L : List Value} {st : List Value} {o : Nat} (hk : gc_kd o = 11) : gc_W (gc_S d) cX11_all 11 0 R 57 L (.ref o :: st) μ ↔ gc_W (gc_S d) cX11_all 11 0 R 60 L (gc_fv o 1 μ :: st) μ := us_getf dX11_all_57 gf_11_42 hk
theorem u96_60 {d : Nat} {R : gR} {μ : gM} {L : List Value} {o : Nat} (hk : gc_kd o = 0) : gc_W (gc_S d) cX11_all 11 0 R 60 L [.ref o] μ ↔ gc_S d 8 [.ref o] μ (fun v μ' => gc_W (gc_S d) cX11_all 11 0 R 63 L (v.toList ++ []) μ') := us_virt dX11_all_60 gn_11_192 gc_11_192_0 hk rfl rfl rfl rfl rfl
theorem u96_63 {d : Nat} {R : gR} {μ : gM} {L : List Value} {v : Int32}  : gc_W (gc_S d) cX11_all 11 0 R 63 L [.int v] μ ↔ R (some (.int v)) μ := us_iret dX11_all_63 rfl
theorem u96_64 {d : Nat} {R : gR} {μ : gM} {l1 l2 : Value} {st : List Value} {x : Nat}  : gc_W (gc_S d) cX11_all 11 0 R 64 [.ref x, l1, l2] st μ ↔ gc_W (gc_S d) cX11_all 11 0 R 65 [.ref x, l1, l2] (.ref x :: st) μ := us_aload_n dX11_all_64 rfl
theorem u96_65 {d : Nat} {R : gR} {μ : gM} {L : List Value} {st : List Value} {o : Nat} (hk : gc_kd o = 11) : gc_W (gc_S d) cX11_all 11 0 R 65 L (.ref o :: st) μ ↔ gc_W (gc_S d) cX11_all 11 0 R 68 L (gc_fv o 1 μ :: st) μ := us_getf dX11_all_65 gf_11_42 hk
theorem u96_68 {d : Nat} {R : gR} {μ : gM} {L : List Value} {o : Nat} (hk : gc_kd o = 0) : gc_W (gc_S d) cX11_all 11 0 R 68 L [.ref o] μ ↔ gc_S d 9 [.ref o] μ (fun v μ' => gc_W (gc_S d) cX11_all 11 0 R 71 L (v.toList ++ []) μ') := us_virt dX11_all_68 gn_11_201 gc_11_201_0 hk rfl rfl rfl rfl rfl
theorem u96_71 {d : Nat} {R : gR} {μ : gM} {L : List Value} {v : Int32}  : gc_W (gc_S d) cX11_all 11 0 R 71 L [.int v] μ ↔ R (some (.int v)) μ := us_iret dX11_all_71 rfl
theorem u96_72 {d : Nat} {R : gR} {μ : gM} {l1 l2 : Value} {st : List Value} {x : Nat}  : gc_W (gc_S d) cX11_all 11 0 R 72 [.ref x, l1, l2] st μ ↔ gc_W (gc_S d) cX11_all 11 0 R 73 [.ref x, l1, l2] (.ref x :: st) μ := us_aload_n dX11_all_72 rfl
theorem u96_73 {d : Nat} {R : gR} {μ : gM} {L : List Value} {st : List Value} {o : Nat} (hk : gc_kd o = 11) : gc_W (gc_S d) cX11_all 11 0 R 73 L (.ref o :: st) μ ↔ gc_W (gc_S d) cX11_all 11 0 R 76 L (gc_fv o 1 μ :: st) μ := us_getf dX11_all_73 gf_11_42 hk
theorem u96_76 {d : Nat} {R : gR} {μ : gM} {L : List Value} {o : Nat} (hk : gc_kd o = 0) : gc_W (gc_S d) cX11_all 11 0 R 76 L [.ref o] μ ↔ gc_S d 5 [.ref o] μ (fun v μ' => gc_W (gc_S d) cX11_all 11 0 R 79 L (v.toList ++ []) μ') := us_virt dX11_all_76 gn_11_204 gc_11_204_0 hk rfl rfl rfl rfl rfl
theorem u96_79 {d : Nat} {R : gR} {μ : gM} {L : List Value}  {a0 : Int32}  : gc_W (gc_S d) cX11_all 11 0 R 79 L [.int a0] μ ↔ gc_S d 30 [.int a0] μ (fun v μ' => gc_W (gc_S d) cX11_all 11 0 R 82 L (v.toList ++ []) μ') := us_stat dX11_all_79 gs_11_109 gne_11_109 gn_11_109 gc_11_109_97 rfl rfl rfl rfl
theorem u96_82 {d : Nat} {R : gR} {μ : gM} {L : List Value} {v : Int32}  : gc_W (gc_S d) cX11_all 11 0 R 82 L [.int v] μ ↔ R (some (.int v)) μ := us_iret dX11_all_82 rfl
theorem s96 {d : Nat} {R : gR} {μ : gM} {o : Nat} {a0 a1 : Int32} : gc_S (d + 1) 96 [.ref o, .int a0, .int a1] μ R ↔ gc_W (gc_S d) cX11_all 11 0 R 0 [.ref o, .int a0, .int a1] [] μ := us_call (gm_96) rfl rfl
theorem dX11_firstBehind_0 : decode cX11_firstBehind 0 = .ok (.aload_n 0, 1) := by decide +kernel
theorem dX11_firstBehind_1 : decode cX11_firstBehind 1 = .ok (.getfield 42, 3) := by decide +kernel
theorem dX11_firstBehind_4 : decode cX11_firstBehind 4 = .ok (.aload_n 0, 1) := by decide +kernel
theorem dX11_firstBehind_5 : decode cX11_firstBehind 5 = .ok (.getfield 38, 3) := by decide +kernel
theorem dX11_firstBehind_8 : decode cX11_firstBehind 8 = .ok (.invokevirtual 307, 3) := by decide +kernel
theorem dX11_firstBehind_11 : decode cX11_firstBehind 11 = .ok (.iconst 0, 1) := by decide +kernel
theorem dX11_firstBehind_12 : decode cX11_firstBehind 12 = .ok (.istore 4, 2) := by decide +kernel
theorem dX11_firstBehind_14 : decode cX11_firstBehind 14 = .ok (.iload 4, 2) := by decide +kernel
theorem dX11_firstBehind_16 : decode cX11_firstBehind 16 = .ok (.bipush 60, 2) := by decide +kernel
theorem dX11_firstBehind_18 : decode cX11_firstBehind 18 = .ok (.if_icmp .ge 26, 3) := by decide +kernel
theorem dX11_firstBehind_21 : decode cX11_firstBehind 21 = .ok (.aload_n 1, 1) := by decide +kernel
theorem dX11_firstBehind_22 : decode cX11_firstBehind 22 = .ok (.iload_n 2, 1) := by decide +kernel
theorem dX11_firstBehind_23 : decode cX11_firstBehind 23 = .ok (.iaload, 1) := by decide +kernel
theorem dX11_firstBehind_24 : decode cX11_firstBehind 24 = .ok (.iload_n 3, 1) := by decide +kernel
theorem dX11_firstBehind_25 : decode cX11_firstBehind 25 = .ok (.if_icmp .gt 6, 3) := by decide +kernel
theorem dX11_firstBehind_28 : decode cX11_firstBehind 28 = .ok (.iload 4, 2) := by decide +kernel
theorem dX11_firstBehind_30 : decode cX11_firstBehind 30 = .ok (.ireturn, 1) := by decide +kernel
theorem dX11_firstBehind_31 : decode cX11_firstBehind 31 = .ok (.aload_n 0, 1) := by decide +kernel
theorem dX11_firstBehind_32 : decode cX11_firstBehind 32 = .ok (.getfield 42, 3) := by decide +kernel
theorem dX11_firstBehind_35 : decode cX11_firstBehind 35 = .ok (.invokevirtual 189, 3) := by decide +kernel
theorem dX11_firstBehind_38 : decode cX11_firstBehind 38 = .ok (.iinc 4 1, 3) := by decide +kernel
theorem dX11_firstBehind_41 : decode cX11_firstBehind 41 = .ok (.goto (-27), 3) := by decide +kernel
theorem dX11_firstBehind_44 : decode cX11_firstBehind 44 = .ok (.aload_n 1, 1) := by decide +kernel
theorem dX11_firstBehind_45 : decode cX11_firstBehind 45 = .ok (.iload_n 2, 1) := by decide +kernel
theorem dX11_firstBehind_46 : decode cX11_firstBehind 46 = .ok (.iaload, 1) := by decide +kernel
theorem dX11_firstBehind_47 : decode cX11_firstBehind 47 = .ok (.iload_n 3, 1) := by decide +kernel
theorem dX11_firstBehind_48 : decode cX11_firstBehind 48 = .ok (.if_icmp .gt 8, 3) := by decide +kernel
theorem dX11_firstBehind_51 : decode cX11_firstBehind 51 = .ok (.bipush 60, 2) := by decide +kernel
theorem dX11_firstBehind_53 : decode cX11_firstBehind 53 = .ok (.goto 8, 3) := by decide +kernel
theorem dX11_firstBehind_56 : decode cX11_firstBehind 56 = .ok (.aload_n 0, 1) := by decide +kernel
theorem dX11_firstBehind_57 : decode cX11_firstBehind 57 = .ok (.iconst 2, 1) := by decide +kernel
theorem dX11_firstBehind_58 : decode cX11_firstBehind 58 = .ok (.invokevirtual 88, 3) := by decide +kernel
theorem dX11_firstBehind_61 : decode cX11_firstBehind 61 = .ok (.ireturn, 1) := by decide +kernel
theorem u97_0 {d : Nat} {R : gR} {μ : gM} {l1 l2 l3 l4 : Value} {st : List Value} {x : Nat}  : gc_W (gc_S d) cX11_firstBehind 11 0 R 0 [.ref x, l1, l2, l3, l4] st μ ↔ gc_W (gc_S d) cX11_firstBehind 11 0 R 1 [.ref x, l1, l2, l3, l4] (.ref x :: st) μ := us_aload_n dX11_firstBehind_0 rfl
theorem u97_1 {d : Nat} {R : gR} {μ : gM} {L : List Value} {st : List Value} {o : Nat} (hk : gc_kd o = 11) : gc_W (gc_S d) cX11_firstBehind 11 0 R 1 L (.ref o :: st) μ ↔ gc_W (gc_S d) cX11_firstBehind 11 0 R 4 L (gc_fv o 1 μ :: st) μ := us_getf dX11_firstBehind_1 gf_11_42 hk
theorem u97_4 {d : Nat} {R : gR} {μ : gM} {l1 l2 l3 l4 : Value} {st : List Value} {x : Nat}  : gc_W (gc_S d) cX11_firstBehind 11 0 R 4 [.ref x, l1, l2, l3, l4] st μ ↔ gc_W (gc_S d) cX11_firstBehind 11 0 R 5 [.ref x, l1, l2, l3, l4] (.ref x :: st) μ := us_aload_n dX11_firstBehind_4 rfl
theorem u97_5 {d : Nat} {R : gR} {μ : gM} {L : List Value} {st : List Value} {o : Nat} (hk : gc_kd o = 11) : gc_W (gc_S d) cX11_firstBehind 11 0 R 5 L (.ref o :: st) μ ↔ gc_W (gc_S d) cX11_firstBehind 11 0 R 8 L (gc_fv o 0 μ :: st) μ := us_getf dX11_firstBehind_5 gf_11_38 hk
theorem u97_8 {d : Nat} {R : gR} {μ : gM} {L : List Value} {o : Nat} {a0 : Nat} (hk : gc_kd o = 0) : gc_W (gc_S d) cX11_firstBehind 11 0 R 8 L [.ref a0, .ref o] μ ↔ gc_S d 0 [.ref o, .ref a0] μ (fun v μ' => gc_W (gc_S d) cX11_firstBehind 11 0 R 11 L (v.toList ++ []) μ') := us_virt dX11_firstBehind_8 gn_11_307 gc_11_307_0 hk rfl rfl rfl rfl rfl
theorem u97_11 {d : Nat} {R : gR} {μ : gM} {L : List Value} {st : List Value}   : gc_W (gc_S d) cX11_firstBehind 11 0 R 11 L st μ ↔ gc_W (gc_S d) cX11_firstBehind 11 0 R 12 L (.int 0 :: st) μ := us_iconst dX11_firstBehind_11 ci_iconst_0
theorem u97_12 {d : Nat} {R : gR} {μ : gM} {l0 l1 l2 l3 l4 : Value} {st : List Value} {x : Int32} (hs : gc_sk l4 = true) : gc_W (gc_S d) cX11_firstBehind 11 0 R 12 [l0, l1, l2, l3, l4] (.int x :: st) μ ↔ gc_W (gc_S d) cX11_firstBehind 11 0 R 14 [l0, l1, l2, l3, .int x] st μ := us_istore dX11_firstBehind_12 rfl hs
theorem u97_14 {d : Nat} {R : gR} {μ : gM} {l0 l1 l2 l3 : Value} {st : List Value} {x : Int32}  : gc_W (gc_S d) cX11_firstBehind 11 0 R 14 [l0, l1, l2, l3, .int x] st μ ↔ gc_W (gc_S d) cX11_firstBehind 11 0 R 16 [l0, l1, l2, l3, .int x] (.int x :: st) μ := us_iload dX11_firstBehind_14 rfl
theorem u97_16 {d : Nat} {R : gR} {μ : gM} {L : List Value} {st : List Value}   : gc_W (gc_S d) cX11_firstBehind 11 0 R 16 L st μ ↔ gc_W (gc_S d) cX11_firstBehind 11 0 R 18 L (.int 60 :: st) μ := us_bipush dX11_firstBehind_16 ci_bipush_60
theorem u97_18 {d : Nat} {R : gR} {μ : gM} {L : List Value} {st : List Value} {x y : Int32}  : gc_W (gc_S d) cX11_firstBehind 11 0 R 18 L (.int y :: .int x :: st) μ ↔ if y ≤ x then gc_W (gc_S d) cX11_firstBehind 11 0 R 44 L st μ else gc_W (gc_S d) cX11_firstBehind 11 0 R 21 L st μ := us_icge dX11_firstBehind_18 rfl
theorem u97_21 {d : Nat} {R : gR} {μ : gM} {l0 l2 l3 l4 : Value} {st : List Value} {x : Nat}  : gc_W (gc_S d) cX11_firstBehind 11 0 R 21 [l0, .ref x, l2, l3, l4] st μ ↔ gc_W (gc_S d) cX11_firstBehind 11 0 R 22 [l0, .ref x, l2, l3, l4] (.ref x :: st) μ := us_aload_n dX11_firstBehind_21 rfl
theorem u97_22 {d : Nat} {R : gR} {μ : gM} {l0 l1 l3 l4 : Value} {st : List Value} {x : Int32}  : gc_W (gc_S d) cX11_firstBehind 11 0 R 22 [l0, l1, .int x, l3, l4] st μ ↔ gc_W (gc_S d) cX11_firstBehind 11 0 R 23 [l0, l1, .int x, l3, l4] (.int x :: st) μ := us_iload_n dX11_firstBehind_22 rfl
theorem u97_23 {d : Nat} {R : gR} {μ : gM} {L : List Value} {st : List Value} {o : Nat} {i : Int32} (hk : gc_kd o = 20) : gc_W (gc_S d) cX11_firstBehind 11 0 R 23 L (.int i :: .ref o :: st) μ ↔ (vp_in i (gc_al o) ∧ gc_W (gc_S d) cX11_firstBehind 11 0 R 24 L (.int (μ o i.toNatClampNeg) :: st) μ) := us_iald dX11_firstBehind_23 hk
theorem u97_24 {d : Nat} {R : gR} {μ : gM} {l0 l1 l2 l4 : Value} {st : List Value} {x : Int32}  : gc_W (gc_S d) cX11_firstBehind 11 0 R 24 [l0, l1, l2, .int x, l4] st μ ↔ gc_W (gc_S d) cX11_firstBehind 11 0 R 25 [l0, l1, l2, .int x, l4] (.int x :: st) μ := us_iload_n dX11_firstBehind_24 rfl
theorem u97_25 {d : Nat} {R : gR} {μ : gM} {L : List Value} {st : List Value} {x y : Int32}  : gc_W (gc_S d) cX11_firstBehind 11 0 R 25 L (.int y :: .int x :: st) μ ↔ if y < x then gc_W (gc_S d) cX11_firstBehind 11 0 R 31 L st μ else gc_W (gc_S d) cX11_firstBehind 11 0 R 28 L st μ := us_icgt dX11_firstBehind_25 rfl
theorem u97_28 {d : Nat} {R : gR} {μ : gM} {l0 l1 l2 l3 : Value} {st : List Value} {x : Int32}  : gc_W (gc_S d) cX11_firstBehind 11 0 R 28 [l0, l1, l2, l3, .int x] st μ ↔ gc_W (gc_S d) cX11_firstBehind 11 0 R 30 [l0, l1, l2, l3, .int x] (.int x :: st) μ := us_iload dX11_firstBehind_28 rfl
theorem u97_30 {d : Nat} {R : gR} {μ : gM} {L : List Value} {v : Int32}  : gc_W (gc_S d) cX11_firstBehind 11 0 R 30 L [.int v] μ ↔ R (some (.int v)) μ := us_iret dX11_firstBehind_30 rfl
theorem u97_31 {d : Nat} {R : gR} {μ : gM} {l1 l2 l3 l4 : Value} {st : List Value} {x : Nat}  : gc_W (gc_S d) cX11_firstBehind 11 0 R 31 [.ref x, l1, l2, l3, l4] st μ ↔ gc_W (gc_S d) cX11_firstBehind 11 0 R 32 [.ref x, l1, l2, l3, l4] (.ref x :: st) μ := us_aload_n dX11_firstBehind_31 rfl
theorem u97_32 {d : Nat} {R : gR} {μ : gM} {L : List Value} {st : List Value} {o : Nat} (hk : gc_kd o = 11) : gc_W (gc_S d) cX11_firstBehind 11 0 R 32 L (.ref o :: st) μ ↔ gc_W (gc_S d) cX11_firstBehind 11 0 R 35 L (gc_fv o 1 μ :: st) μ := us_getf dX11_firstBehind_32 gf_11_42 hk
theorem u97_35 {d : Nat} {R : gR} {μ : gM} {L : List Value} {o : Nat} (hk : gc_kd o = 0) : gc_W (gc_S d) cX11_firstBehind 11 0 R 35 L [.ref o] μ ↔ gc_S d 38 [.ref o] μ (fun v μ' => gc_W (gc_S d) cX11_firstBehind 11 0 R 38 L (v.toList ++ []) μ') := us_virt dX11_firstBehind_35 gn_11_189 gc_11_189_0 hk rfl rfl rfl rfl rfl
theorem u97_38 {d : Nat} {R : gR} {μ : gM} {l0 l1 l2 l3 : Value} {st : List Value} {x : Int32}  : gc_W (gc_S d) cX11_firstBehind 11 0 R 38 [l0, l1, l2, l3, .int x] st μ ↔ gc_W (gc_S d) cX11_firstBehind 11 0 R 41 [l0, l1, l2, l3, .int (x + 1)] st μ := us_iinc dX11_firstBehind_38 rfl ci_iinc_1
theorem u97_41 {d : Nat} {R : gR} {μ : gM} {L : List Value} {st : List Value}  : gc_W (gc_S d) cX11_firstBehind 11 0 R 41 L st μ ↔ gc_W (gc_S d) cX11_firstBehind 11 0 R 14 L st μ := us_goto dX11_firstBehind_41 rfl
theorem u97_44 {d : Nat} {R : gR} {μ : gM} {l0 l2 l3 l4 : Value} {st : List Value} {x : Nat}  : gc_W (gc_S d) cX11_firstBehind 11 0 R 44 [l0, .ref x, l2, l3, l4] st μ ↔ gc_W (gc_S d) cX11_firstBehind 11 0 R 45 [l0, .ref x, l2, l3, l4] (.ref x :: st) μ := us_aload_n dX11_firstBehind_44 rfl
theorem u97_45 {d : Nat} {R : gR} {μ : gM} {l0 l1 l3 l4 : Value} {st : List Value} {x : Int32}  : gc_W (gc_S d) cX11_firstBehind 11 0 R 45 [l0, l1, .int x, l3, l4] st μ ↔ gc_W (gc_S d) cX11_firstBehind 11 0 R 46 [l0, l1, .int x, l3, l4] (.int x :: st) μ := us_iload_n dX11_firstBehind_45 rfl
theorem u97_46 {d : Nat} {R : gR} {μ : gM} {L : List Value} {st : List Value} {o : Nat} {i : Int32} (hk : gc_kd o = 20) : gc_W (gc_S d) cX11_firstBehind 11 0 R 46 L (.int i :: .ref o :: st) μ ↔ (vp_in i (gc_al o) ∧ gc_W (gc_S d) cX11_firstBehind 11 0 R 47 L (.int (μ o i.toNatClampNeg) :: st) μ) := us_iald dX11_firstBehind_46 hk
theorem u97_47 {d : Nat} {R : gR} {μ : gM} {l0 l1 l2 l4 : Value} {st : List Value} {x : Int32}  : gc_W (gc_S d) cX11_firstBehind 11 0 R 47 [l0, l1, l2, .int x, l4] st μ ↔ gc_W (gc_S d) cX11_firstBehind 11 0 R 48 [l0, l1, l2, .int x, l4] (.int x :: st) μ := us_iload_n dX11_firstBehind_47 rfl
theorem u97_48 {d : Nat} {R : gR} {μ : gM} {L : List Value} {st : List Value} {x y : Int32}  : gc_W (gc_S d) cX11_firstBehind 11 0 R 48 L (.int y :: .int x :: st) μ ↔ if y < x then gc_W (gc_S d) cX11_firstBehind 11 0 R 56 L st μ else gc_W (gc_S d) cX11_firstBehind 11 0 R 51 L st μ := us_icgt dX11_firstBehind_48 rfl
theorem u97_51 {d : Nat} {R : gR} {μ : gM} {L : List Value} {st : List Value}   : gc_W (gc_S d) cX11_firstBehind 11 0 R 51 L st μ ↔ gc_W (gc_S d) cX11_firstBehind 11 0 R 53 L (.int 60 :: st) μ := us_bipush dX11_firstBehind_51 ci_bipush_60
theorem u97_53 {d : Nat} {R : gR} {μ : gM} {L : List Value} {st : List Value}  : gc_W (gc_S d) cX11_firstBehind 11 0 R 53 L st μ ↔ gc_W (gc_S d) cX11_firstBehind 11 0 R 61 L st μ := us_goto dX11_firstBehind_53 rfl
theorem u97_56 {d : Nat} {R : gR} {μ : gM} {l1 l2 l3 l4 : Value} {st : List Value} {x : Nat}  : gc_W (gc_S d) cX11_firstBehind 11 0 R 56 [.ref x, l1, l2, l3, l4] st μ ↔ gc_W (gc_S d) cX11_firstBehind 11 0 R 57 [.ref x, l1, l2, l3, l4] (.ref x :: st) μ := us_aload_n dX11_firstBehind_56 rfl
theorem u97_57 {d : Nat} {R : gR} {μ : gM} {L : List Value} {st : List Value}   : gc_W (gc_S d) cX11_firstBehind 11 0 R 57 L st μ ↔ gc_W (gc_S d) cX11_firstBehind 11 0 R 58 L (.int 2 :: st) μ := us_iconst dX11_firstBehind_57 ci_iconst_2
theorem u97_58 {d : Nat} {R : gR} {μ : gM} {L : List Value} {o : Nat} {a0 : Int32} (hk : gc_kd o = 11) : gc_W (gc_S d) cX11_firstBehind 11 0 R 58 L [.int a0, .ref o] μ ↔ gc_S d 75 [.ref o, .int a0] μ (fun v μ' => gc_W (gc_S d) cX11_firstBehind 11 0 R 61 L (v.toList ++ []) μ') := us_virt dX11_firstBehind_58 gn_11_88 gc_11_88_11 hk rfl rfl rfl rfl rfl
theorem u97_61 {d : Nat} {R : gR} {μ : gM} {L : List Value} {v : Int32}  : gc_W (gc_S d) cX11_firstBehind 11 0 R 61 L [.int v] μ ↔ R (some (.int v)) μ := us_iret dX11_firstBehind_61 rfl
theorem s97 {d : Nat} {R : gR} {μ : gM} {o : Nat} {a1 a2 : Int32} {a0 : Nat} : gc_S (d + 1) 97 [.ref o, .ref a0, .int a1, .int a2] μ R ↔ gc_W (gc_S d) cX11_firstBehind 11 0 R 0 [.ref o, .ref a0, .int a1, .int a2, .retAddr 0] [] μ := us_call (gm_97) rfl rfl
theorem dX11_dry_0 : decode cX11_dry 0 = .ok (.iload_n 1, 1) := by decide +kernel
theorem dX11_dry_1 : decode cX11_dry 1 = .ok (.invokestatic 80, 3) := by decide +kernel
theorem dX11_dry_4 : decode cX11_dry 4 = .ok (.ifCond .ne 9, 3) := by decide +kernel
theorem dX11_dry_7 : decode cX11_dry 7 = .ok (.aload_n 0, 1) := by decide +kernel
theorem dX11_dry_8 : decode cX11_dry 8 = .ok (.iconst 1, 1) := by decide +kernel
theorem dX11_dry_9 : decode cX11_dry 9 = .ok (.invokevirtual 88, 3) := by decide +kernel
theorem dX11_dry_12 : decode cX11_dry 12 = .ok (.ireturn, 1) := by decide +kernel
theorem dX11_dry_13 : decode cX11_dry 13 = .ok (.aload_n 0, 1) := by decide +kernel
theorem dX11_dry_14 : decode cX11_dry 14 = .ok (.aload_n 0, 1) := by decide +kernel
theorem dX11_dry_15 : decode cX11_dry 15 = .ok (.getfield 42, 3) := by decide +kernel
theorem dX11_dry_18 : decode cX11_dry 18 = .ok (.getfield 92, 3) := by decide +kernel
theorem dX11_dry_21 : decode cX11_dry 21 = .ok (.iload_n 1, 1) := by decide +kernel
theorem dX11_dry_22 : decode cX11_dry 22 = .ok (.iconst 0, 1) := by decide +kernel
theorem dX11_dry_23 : decode cX11_dry 23 = .ok (.invokevirtual 207, 3) := by decide +kernel
theorem dX11_dry_26 : decode cX11_dry 26 = .ok (.ireturn, 1) := by decide +kernel
theorem u98_0 {d : Nat} {R : gR} {μ : gM} {l0 : Value} {st : List Value} {x : Int32}  : gc_W (gc_S d) cX11_dry 11 0 R 0 [l0, .int x] st μ ↔ gc_W (gc_S d) cX11_dry 11 0 R 1 [l0, .int x] (.int x :: st) μ := us_iload_n dX11_dry_0 rfl
theorem u98_1 {d : Nat} {R : gR} {μ : gM} {L : List Value}  {a0 : Int32}  : gc_W (gc_S d) cX11_dry 11 0 R 1 L [.int a0] μ ↔ gc_S d 74 [.int a0] μ (fun v μ' => gc_W (gc_S d) cX11_dry 11 0 R 4 L (v.toList ++ []) μ') := us_stat dX11_dry_1 gs_11_80 gne_11_80 gn_11_80 gc_11_80_97 rfl rfl rfl rfl
theorem u98_4 {d : Nat} {R : gR} {μ : gM} {L : List Value} {st : List Value} {x : Int32}  : gc_W (gc_S d) cX11_dry 11 0 R 4 L (.int x :: st) μ ↔ if x = 0 then gc_W (gc_S d) cX11_dry 11 0 R 7 L st μ else gc_W (gc_S d) cX11_dry 11 0 R 13 L st μ := us_ifne dX11_dry_4 rfl
theorem u98_7 {d : Nat} {R : gR} {μ : gM} {l1 : Value} {st : List Value} {x : Nat}  : gc_W (gc_S d) cX11_dry 11 0 R 7 [.ref x, l1] st μ ↔ gc_W (gc_S d) cX11_dry 11 0 R 8 [.ref x, l1] (.ref x :: st) μ := us_aload_n dX11_dry_7 rfl
theorem u98_8 {d : Nat} {R : gR} {μ : gM} {L : List Value} {st : List Value}   : gc_W (gc_S d) cX11_dry 11 0 R 8 L st μ ↔ gc_W (gc_S d) cX11_dry 11 0 R 9 L (.int 1 :: st) μ := us_iconst dX11_dry_8 ci_iconst_1
theorem u98_9 {d : Nat} {R : gR} {μ : gM} {L : List Value} {o : Nat} {a0 : Int32} (hk : gc_kd o = 11) : gc_W (gc_S d) cX11_dry 11 0 R 9 L [.int a0, .ref o] μ ↔ gc_S d 75 [.ref o, .int a0] μ (fun v μ' => gc_W (gc_S d) cX11_dry 11 0 R 12 L (v.toList ++ []) μ') := us_virt dX11_dry_9 gn_11_88 gc_11_88_11 hk rfl rfl rfl rfl rfl
theorem u98_12 {d : Nat} {R : gR} {μ : gM} {L : List Value} {v : Int32}  : gc_W (gc_S d) cX11_dry 11 0 R 12 L [.int v] μ ↔ R (some (.int v)) μ := us_iret dX11_dry_12 rfl
theorem u98_13 {d : Nat} {R : gR} {μ : gM} {l1 : Value} {st : List Value} {x : Nat}  : gc_W (gc_S d) cX11_dry 11 0 R 13 [.ref x, l1] st μ ↔ gc_W (gc_S d) cX11_dry 11 0 R 14 [.ref x, l1] (.ref x :: st) μ := us_aload_n dX11_dry_13 rfl
theorem u98_14 {d : Nat} {R : gR} {μ : gM} {l1 : Value} {st : List Value} {x : Nat}  : gc_W (gc_S d) cX11_dry 11 0 R 14 [.ref x, l1] st μ ↔ gc_W (gc_S d) cX11_dry 11 0 R 15 [.ref x, l1] (.ref x :: st) μ := us_aload_n dX11_dry_14 rfl
theorem u98_15 {d : Nat} {R : gR} {μ : gM} {L : List Value} {st : List Value} {o : Nat} (hk : gc_kd o = 11) : gc_W (gc_S d) cX11_dry 11 0 R 15 L (.ref o :: st) μ ↔ gc_W (gc_S d) cX11_dry 11 0 R 18 L (gc_fv o 1 μ :: st) μ := us_getf dX11_dry_15 gf_11_42 hk
theorem u98_18 {d : Nat} {R : gR} {μ : gM} {L : List Value} {st : List Value} {o : Nat} (hk : gc_kd o = 0) : gc_W (gc_S d) cX11_dry 11 0 R 18 L (.ref o :: st) μ ↔ gc_W (gc_S d) cX11_dry 11 0 R 21 L (gc_fv o 2 μ :: st) μ := us_getf dX11_dry_18 gf_11_92 hk
theorem u98_21 {d : Nat} {R : gR} {μ : gM} {l0 : Value} {st : List Value} {x : Int32}  : gc_W (gc_S d) cX11_dry 11 0 R 21 [l0, .int x] st μ ↔ gc_W (gc_S d) cX11_dry 11 0 R 22 [l0, .int x] (.int x :: st) μ := us_iload_n dX11_dry_21 rfl
theorem u98_22 {d : Nat} {R : gR} {μ : gM} {L : List Value} {st : List Value}   : gc_W (gc_S d) cX11_dry 11 0 R 22 L st μ ↔ gc_W (gc_S d) cX11_dry 11 0 R 23 L (.int 0 :: st) μ := us_iconst dX11_dry_22 ci_iconst_0
theorem u98_23 {d : Nat} {R : gR} {μ : gM} {L : List Value} {o : Nat} {a1 a2 : Int32} {a0 : Nat} (hk : gc_kd o = 11) : gc_W (gc_S d) cX11_dry 11 0 R 23 L [.int a2, .int a1, .ref a0, .ref o] μ ↔ gc_S d 97 [.ref o, .ref a0, .int a1, .int a2] μ (fun v μ' => gc_W (gc_S d) cX11_dry 11 0 R 26 L (v.toList ++ []) μ') := us_virt dX11_dry_23 gn_11_207 gc_11_207_11 hk rfl rfl rfl rfl rfl
theorem u98_26 {d : Nat} {R : gR} {μ : gM} {L : List Value} {v : Int32}  : gc_W (gc_S d) cX11_dry 11 0 R 26 L [.int v] μ ↔ R (some (.int v)) μ := us_iret dX11_dry_26 rfl
theorem s98 {d : Nat} {R : gR} {μ : gM} {o : Nat} {a0 : Int32} : gc_S (d + 1) 98 [.ref o, .int a0] μ R ↔ gc_W (gc_S d) cX11_dry 11 0 R 0 [.ref o, .int a0] [] μ := us_call (gm_98) rfl rfl
theorem dX11_eased_0 : decode cX11_eased 0 = .ok (.aload_n 0, 1) := by decide +kernel
theorem dX11_eased_1 : decode cX11_eased 1 = .ok (.iload_n 1, 1) := by decide +kernel
theorem dX11_eased_2 : decode cX11_eased 2 = .ok (.invokevirtual 135, 3) := by decide +kernel
theorem dX11_eased_5 : decode cX11_eased 5 = .ok (.ifCond .eq 12, 3) := by decide +kernel
theorem dX11_eased_8 : decode cX11_eased 8 = .ok (.bipush 99, 2) := by decide +kernel
theorem dX11_eased_10 : decode cX11_eased 10 = .ok (.iload_n 2, 1) := by decide +kernel
theorem dX11_eased_11 : decode cX11_eased 11 = .ok (.invokestatic 84, 3) := by decide +kernel
theorem dX11_eased_14 : decode cX11_eased 14 = .ok (.ifCond .ne 9, 3) := by decide +kernel
theorem dX11_eased_17 : decode cX11_eased 17 = .ok (.aload_n 0, 1) := by decide +kernel
theorem dX11_eased_18 : decode cX11_eased 18 = .ok (.iconst 1, 1) := by decide +kernel
theorem dX11_eased_19 : decode cX11_eased 19 = .ok (.invokevirtual 88, 3) := by decide +kernel
theorem dX11_eased_22 : decode cX11_eased 22 = .ok (.ireturn, 1) := by decide +kernel
theorem dX11_eased_23 : decode cX11_eased 23 = .ok (.aload_n 0, 1) := by decide +kernel
theorem dX11_eased_24 : decode cX11_eased 24 = .ok (.aload_n 0, 1) := by decide +kernel
theorem dX11_eased_25 : decode cX11_eased 25 = .ok (.getfield 42, 3) := by decide +kernel
theorem dX11_eased_28 : decode cX11_eased 28 = .ok (.getfield 129, 3) := by decide +kernel
theorem dX11_eased_31 : decode cX11_eased 31 = .ok (.iload_n 1, 1) := by decide +kernel
theorem dX11_eased_32 : decode cX11_eased 32 = .ok (.iload_n 2, 1) := by decide +kernel
theorem dX11_eased_33 : decode cX11_eased 33 = .ok (.invokevirtual 207, 3) := by decide +kernel
theorem dX11_eased_36 : decode cX11_eased 36 = .ok (.ireturn, 1) := by decide +kernel
theorem u99_0 {d : Nat} {R : gR} {μ : gM} {l1 l2 : Value} {st : List Value} {x : Nat}  : gc_W (gc_S d) cX11_eased 11 0 R 0 [.ref x, l1, l2] st μ ↔ gc_W (gc_S d) cX11_eased 11 0 R 1 [.ref x, l1, l2] (.ref x :: st) μ := us_aload_n dX11_eased_0 rfl
theorem u99_1 {d : Nat} {R : gR} {μ : gM} {l0 l2 : Value} {st : List Value} {x : Int32}  : gc_W (gc_S d) cX11_eased 11 0 R 1 [l0, .int x, l2] st μ ↔ gc_W (gc_S d) cX11_eased 11 0 R 2 [l0, .int x, l2] (.int x :: st) μ := us_iload_n dX11_eased_1 rfl
theorem u99_2 {d : Nat} {R : gR} {μ : gM} {L : List Value} {o : Nat} {a0 : Int32} (hk : gc_kd o = 11) : gc_W (gc_S d) cX11_eased 11 0 R 2 L [.int a0, .ref o] μ ↔ gc_S d 82 [.ref o, .int a0] μ (fun v μ' => gc_W (gc_S d) cX11_eased 11 0 R 5 L (v.toList ++ []) μ') := us_virt dX11_eased_2 gn_11_135 gc_11_135_11 hk rfl rfl rfl rfl rfl
theorem u99_5 {d : Nat} {R : gR} {μ : gM} {L : List Value} {st : List Value} {x : Int32}  : gc_W (gc_S d) cX11_eased 11 0 R 5 L (.int x :: st) μ ↔ if x = 0 then gc_W (gc_S d) cX11_eased 11 0 R 17 L st μ else gc_W (gc_S d) cX11_eased 11 0 R 8 L st μ := us_ifeq dX11_eased_5 rfl
theorem u99_8 {d : Nat} {R : gR} {μ : gM} {L : List Value} {st : List Value}   : gc_W (gc_S d) cX11_eased 11 0 R 8 L st μ ↔ gc_W (gc_S d) cX11_eased 11 0 R 10 L (.int 99 :: st) μ := us_bipush dX11_eased_8 ci_bipush_99
theorem u99_10 {d : Nat} {R : gR} {μ : gM} {l0 l1 : Value} {st : List Value} {x : Int32}  : gc_W (gc_S d) cX11_eased 11 0 R 10 [l0, l1, .int x] st μ ↔ gc_W (gc_S d) cX11_eased 11 0 R 11 [l0, l1, .int x] (.int x :: st) μ := us_iload_n dX11_eased_10 rfl
theorem u99_11 {d : Nat} {R : gR} {μ : gM} {L : List Value}  {a0 a1 : Int32}  : gc_W (gc_S d) cX11_eased 11 0 R 11 L [.int a1, .int a0] μ ↔ gc_S d 73 [.int a0, .int a1] μ (fun v μ' => gc_W (gc_S d) cX11_eased 11 0 R 14 L (v.toList ++ []) μ') := us_stat dX11_eased_11 gs_11_84 gne_11_84 gn_11_84 gc_11_84_97 rfl rfl rfl rfl
theorem u99_14 {d : Nat} {R : gR} {μ : gM} {L : List Value} {st : List Value} {x : Int32}  : gc_W (gc_S d) cX11_eased 11 0 R 14 L (.int x :: st) μ ↔ if x = 0 then gc_W (gc_S d) cX11_eased 11 0 R 17 L st μ else gc_W (gc_S d) cX11_eased 11 0 R 23 L st μ := us_ifne dX11_eased_14 rfl
theorem u99_17 {d : Nat} {R : gR} {μ : gM} {l1 l2 : Value} {st : List Value} {x : Nat}  : gc_W (gc_S d) cX11_eased 11 0 R 17 [.ref x, l1, l2] st μ ↔ gc_W (gc_S d) cX11_eased 11 0 R 18 [.ref x, l1, l2] (.ref x :: st) μ := us_aload_n dX11_eased_17 rfl
theorem u99_18 {d : Nat} {R : gR} {μ : gM} {L : List Value} {st : List Value}   : gc_W (gc_S d) cX11_eased 11 0 R 18 L st μ ↔ gc_W (gc_S d) cX11_eased 11 0 R 19 L (.int 1 :: st) μ := us_iconst dX11_eased_18 ci_iconst_1
theorem u99_19 {d : Nat} {R : gR} {μ : gM} {L : List Value} {o : Nat} {a0 : Int32} (hk : gc_kd o = 11) : gc_W (gc_S d) cX11_eased 11 0 R 19 L [.int a0, .ref o] μ ↔ gc_S d 75 [.ref o, .int a0] μ (fun v μ' => gc_W (gc_S d) cX11_eased 11 0 R 22 L (v.toList ++ []) μ') := us_virt dX11_eased_19 gn_11_88 gc_11_88_11 hk rfl rfl rfl rfl rfl
theorem u99_22 {d : Nat} {R : gR} {μ : gM} {L : List Value} {v : Int32}  : gc_W (gc_S d) cX11_eased 11 0 R 22 L [.int v] μ ↔ R (some (.int v)) μ := us_iret dX11_eased_22 rfl
theorem u99_23 {d : Nat} {R : gR} {μ : gM} {l1 l2 : Value} {st : List Value} {x : Nat}  : gc_W (gc_S d) cX11_eased 11 0 R 23 [.ref x, l1, l2] st μ ↔ gc_W (gc_S d) cX11_eased 11 0 R 24 [.ref x, l1, l2] (.ref x :: st) μ := us_aload_n dX11_eased_23 rfl
theorem u99_24 {d : Nat} {R : gR} {μ : gM} {l1 l2 : Value} {st : List Value} {x : Nat}  : gc_W (gc_S d) cX11_eased 11 0 R 24 [.ref x, l1, l2] st μ ↔ gc_W (gc_S d) cX11_eased 11 0 R 25 [.ref x, l1, l2] (.ref x :: st) μ := us_aload_n dX11_eased_24 rfl
theorem u99_25 {d : Nat} {R : gR} {μ : gM} {L : List Value} {st : List Value} {o : Nat} (hk : gc_kd o = 11) : gc_W (gc_S d) cX11_eased 11 0 R 25 L (.ref o :: st) μ ↔ gc_W (gc_S d) cX11_eased 11 0 R 28 L (gc_fv o 1 μ :: st) μ := us_getf dX11_eased_25 gf_11_42 hk
theorem u99_28 {d : Nat} {R : gR} {μ : gM} {L : List Value} {st : List Value} {o : Nat} (hk : gc_kd o = 0) : gc_W (gc_S d) cX11_eased 11 0 R 28 L (.ref o :: st) μ ↔ gc_W (gc_S d) cX11_eased 11 0 R 31 L (gc_fv o 7 μ :: st) μ := us_getf dX11_eased_28 gf_11_129 hk
theorem u99_31 {d : Nat} {R : gR} {μ : gM} {l0 l2 : Value} {st : List Value} {x : Int32}  : gc_W (gc_S d) cX11_eased 11 0 R 31 [l0, .int x, l2] st μ ↔ gc_W (gc_S d) cX11_eased 11 0 R 32 [l0, .int x, l2] (.int x :: st) μ := us_iload_n dX11_eased_31 rfl
theorem u99_32 {d : Nat} {R : gR} {μ : gM} {l0 l1 : Value} {st : List Value} {x : Int32}  : gc_W (gc_S d) cX11_eased 11 0 R 32 [l0, l1, .int x] st μ ↔ gc_W (gc_S d) cX11_eased 11 0 R 33 [l0, l1, .int x] (.int x :: st) μ := us_iload_n dX11_eased_32 rfl
theorem u99_33 {d : Nat} {R : gR} {μ : gM} {L : List Value} {o : Nat} {a1 a2 : Int32} {a0 : Nat} (hk : gc_kd o = 11) : gc_W (gc_S d) cX11_eased 11 0 R 33 L [.int a2, .int a1, .ref a0, .ref o] μ ↔ gc_S d 97 [.ref o, .ref a0, .int a1, .int a2] μ (fun v μ' => gc_W (gc_S d) cX11_eased 11 0 R 36 L (v.toList ++ []) μ') := us_virt dX11_eased_33 gn_11_207 gc_11_207_11 hk rfl rfl rfl rfl rfl
theorem u99_36 {d : Nat} {R : gR} {μ : gM} {L : List Value} {v : Int32}  : gc_W (gc_S d) cX11_eased 11 0 R 36 L [.int v] μ ↔ R (some (.int v)) μ := us_iret dX11_eased_36 rfl
theorem s99 {d : Nat} {R : gR} {μ : gM} {o : Nat} {a0 a1 : Int32} : gc_S (d + 1) 99 [.ref o, .int a0, .int a1] μ R ↔ gc_W (gc_S d) cX11_eased 11 0 R 0 [.ref o, .int a0, .int a1] [] μ := us_call (gm_99) rfl rfl
theorem dX11_suppose_0 : decode cX11_suppose 0 = .ok (.aload_n 0, 1) := by decide +kernel
theorem dX11_suppose_1 : decode cX11_suppose 1 = .ok (.getfield 42, 3) := by decide +kernel
theorem dX11_suppose_4 : decode cX11_suppose 4 = .ok (.aload_n 0, 1) := by decide +kernel
theorem dX11_suppose_5 : decode cX11_suppose 5 = .ok (.getfield 38, 3) := by decide +kernel
theorem dX11_suppose_8 : decode cX11_suppose 8 = .ok (.invokevirtual 307, 3) := by decide +kernel
theorem dX11_suppose_11 : decode cX11_suppose 11 = .ok (.iload_n 1, 1) := by decide +kernel
theorem dX11_suppose_12 : decode cX11_suppose 12 = .ok (.tableswitch 67 0 2 #[28, 41, 54], 28) := by decide +kernel
theorem dX11_suppose_40 : decode cX11_suppose 40 = .ok (.aload_n 0, 1) := by decide +kernel
theorem dX11_suppose_41 : decode cX11_suppose 41 = .ok (.getfield 42, 3) := by decide +kernel
theorem dX11_suppose_44 : decode cX11_suppose 44 = .ok (.getfield 132, 3) := by decide +kernel
theorem dX11_suppose_47 : decode cX11_suppose 47 = .ok (.iload_n 2, 1) := by decide +kernel
theorem dX11_suppose_48 : decode cX11_suppose 48 = .ok (.iload_n 3, 1) := by decide +kernel
theorem dX11_suppose_49 : decode cX11_suppose 49 = .ok (.iastore, 1) := by decide +kernel
theorem dX11_suppose_50 : decode cX11_suppose 50 = .ok (.goto 39, 3) := by decide +kernel
theorem dX11_suppose_53 : decode cX11_suppose 53 = .ok (.aload_n 0, 1) := by decide +kernel
theorem dX11_suppose_54 : decode cX11_suppose 54 = .ok (.getfield 42, 3) := by decide +kernel
theorem dX11_suppose_57 : decode cX11_suppose 57 = .ok (.getfield 114, 3) := by decide +kernel
theorem dX11_suppose_60 : decode cX11_suppose 60 = .ok (.iload_n 2, 1) := by decide +kernel
theorem dX11_suppose_61 : decode cX11_suppose 61 = .ok (.iload_n 3, 1) := by decide +kernel
theorem dX11_suppose_62 : decode cX11_suppose 62 = .ok (.iastore, 1) := by decide +kernel
theorem dX11_suppose_63 : decode cX11_suppose 63 = .ok (.goto 26, 3) := by decide +kernel
theorem dX11_suppose_66 : decode cX11_suppose 66 = .ok (.aload_n 0, 1) := by decide +kernel
theorem dX11_suppose_67 : decode cX11_suppose 67 = .ok (.getfield 42, 3) := by decide +kernel
theorem dX11_suppose_70 : decode cX11_suppose 70 = .ok (.getfield 123, 3) := by decide +kernel
theorem dX11_suppose_73 : decode cX11_suppose 73 = .ok (.iload_n 2, 1) := by decide +kernel
theorem dX11_suppose_74 : decode cX11_suppose 74 = .ok (.iload_n 3, 1) := by decide +kernel
theorem dX11_suppose_75 : decode cX11_suppose 75 = .ok (.iastore, 1) := by decide +kernel
theorem dX11_suppose_76 : decode cX11_suppose 76 = .ok (.goto 13, 3) := by decide +kernel
theorem dX11_suppose_79 : decode cX11_suppose 79 = .ok (.aload_n 0, 1) := by decide +kernel
theorem dX11_suppose_80 : decode cX11_suppose 80 = .ok (.getfield 42, 3) := by decide +kernel
theorem dX11_suppose_83 : decode cX11_suppose 83 = .ok (.getfield 129, 3) := by decide +kernel
theorem dX11_suppose_86 : decode cX11_suppose 86 = .ok (.iload_n 2, 1) := by decide +kernel
theorem dX11_suppose_87 : decode cX11_suppose 87 = .ok (.iload_n 3, 1) := by decide +kernel
theorem dX11_suppose_88 : decode cX11_suppose 88 = .ok (.iastore, 1) := by decide +kernel
theorem dX11_suppose_89 : decode cX11_suppose 89 = .ok (.return_, 1) := by decide +kernel
theorem u100_0 {d : Nat} {R : gR} {μ : gM} {l1 l2 l3 : Value} {st : List Value} {x : Nat}  : gc_W (gc_S d) cX11_suppose 11 2 R 0 [.ref x, l1, l2, l3] st μ ↔ gc_W (gc_S d) cX11_suppose 11 2 R 1 [.ref x, l1, l2, l3] (.ref x :: st) μ := us_aload_n dX11_suppose_0 rfl
theorem u100_1 {d : Nat} {R : gR} {μ : gM} {L : List Value} {st : List Value} {o : Nat} (hk : gc_kd o = 11) : gc_W (gc_S d) cX11_suppose 11 2 R 1 L (.ref o :: st) μ ↔ gc_W (gc_S d) cX11_suppose 11 2 R 4 L (gc_fv o 1 μ :: st) μ := us_getf dX11_suppose_1 gf_11_42 hk
theorem u100_4 {d : Nat} {R : gR} {μ : gM} {l1 l2 l3 : Value} {st : List Value} {x : Nat}  : gc_W (gc_S d) cX11_suppose 11 2 R 4 [.ref x, l1, l2, l3] st μ ↔ gc_W (gc_S d) cX11_suppose 11 2 R 5 [.ref x, l1, l2, l3] (.ref x :: st) μ := us_aload_n dX11_suppose_4 rfl
theorem u100_5 {d : Nat} {R : gR} {μ : gM} {L : List Value} {st : List Value} {o : Nat} (hk : gc_kd o = 11) : gc_W (gc_S d) cX11_suppose 11 2 R 5 L (.ref o :: st) μ ↔ gc_W (gc_S d) cX11_suppose 11 2 R 8 L (gc_fv o 0 μ :: st) μ := us_getf dX11_suppose_5 gf_11_38 hk
theorem u100_8 {d : Nat} {R : gR} {μ : gM} {L : List Value} {o : Nat} {a0 : Nat} (hk : gc_kd o = 0) : gc_W (gc_S d) cX11_suppose 11 2 R 8 L [.ref a0, .ref o] μ ↔ gc_S d 0 [.ref o, .ref a0] μ (fun v μ' => gc_W (gc_S d) cX11_suppose 11 2 R 11 L (v.toList ++ []) μ') := us_virt dX11_suppose_8 gn_11_307 gc_11_307_0 hk rfl rfl rfl rfl rfl
theorem u100_11 {d : Nat} {R : gR} {μ : gM} {l0 l2 l3 : Value} {st : List Value} {x : Int32}  : gc_W (gc_S d) cX11_suppose 11 2 R 11 [l0, .int x, l2, l3] st μ ↔ gc_W (gc_S d) cX11_suppose 11 2 R 12 [l0, .int x, l2, l3] (.int x :: st) μ := us_iload_n dX11_suppose_11 rfl
theorem u100_12 {d : Nat} {R : gR} {μ : gM} {L : List Value} {st : List Value} {x : Int32}  : gc_W (gc_S d) cX11_suppose 11 2 R 12 L (.int x :: st) μ ↔ if x = 0 then gc_W (gc_S d) cX11_suppose 11 2 R 40 L st μ else (if x = 1 then gc_W (gc_S d) cX11_suppose 11 2 R 53 L st μ else (if x = 2 then gc_W (gc_S d) cX11_suppose 11 2 R 66 L st μ else (gc_W (gc_S d) cX11_suppose 11 2 R 79 L st μ))) := us_tsw [(0, 40), (1, 53), (2, 66)] dX11_suppose_12 rfl (by decide) (by decide +kernel) (dt := 79) rfl
theorem u100_40 {d : Nat} {R : gR} {μ : gM} {l1 l2 l3 : Value} {st : List Value} {x : Nat}  : gc_W (gc_S d) cX11_suppose 11 2 R 40 [.ref x, l1, l2, l3] st μ ↔ gc_W (gc_S d) cX11_suppose 11 2 R 41 [.ref x, l1, l2, l3] (.ref x :: st) μ := us_aload_n dX11_suppose_40 rfl
theorem u100_41 {d : Nat} {R : gR} {μ : gM} {L : List Value} {st : List Value} {o : Nat} (hk : gc_kd o = 11) : gc_W (gc_S d) cX11_suppose 11 2 R 41 L (.ref o :: st) μ ↔ gc_W (gc_S d) cX11_suppose 11 2 R 44 L (gc_fv o 1 μ :: st) μ := us_getf dX11_suppose_41 gf_11_42 hk
theorem u100_44 {d : Nat} {R : gR} {μ : gM} {L : List Value} {st : List Value} {o : Nat} (hk : gc_kd o = 0) : gc_W (gc_S d) cX11_suppose 11 2 R 44 L (.ref o :: st) μ ↔ gc_W (gc_S d) cX11_suppose 11 2 R 47 L (gc_fv o 8 μ :: st) μ := us_getf dX11_suppose_44 gf_11_132 hk
theorem u100_47 {d : Nat} {R : gR} {μ : gM} {l0 l1 l3 : Value} {st : List Value} {x : Int32}  : gc_W (gc_S d) cX11_suppose 11 2 R 47 [l0, l1, .int x, l3] st μ ↔ gc_W (gc_S d) cX11_suppose 11 2 R 48 [l0, l1, .int x, l3] (.int x :: st) μ := us_iload_n dX11_suppose_47 rfl
theorem u100_48 {d : Nat} {R : gR} {μ : gM} {l0 l1 l2 : Value} {st : List Value} {x : Int32}  : gc_W (gc_S d) cX11_suppose 11 2 R 48 [l0, l1, l2, .int x] st μ ↔ gc_W (gc_S d) cX11_suppose 11 2 R 49 [l0, l1, l2, .int x] (.int x :: st) μ := us_iload_n dX11_suppose_48 rfl
theorem u100_49 {d : Nat} {R : gR} {μ : gM} {L : List Value} {st : List Value} {o : Nat} {i x : Int32} (hk : gc_kd o = 20) : gc_W (gc_S d) cX11_suppose 11 2 R 49 L (.int x :: .int i :: .ref o :: st) μ ↔ (vp_in i (gc_al o) ∧ gc_W (gc_S d) cX11_suppose 11 2 R 50 L st (gc_up μ o i.toNatClampNeg x)) := us_iast dX11_suppose_49 hk
theorem u100_50 {d : Nat} {R : gR} {μ : gM} {L : List Value} {st : List Value}  : gc_W (gc_S d) cX11_suppose 11 2 R 50 L st μ ↔ gc_W (gc_S d) cX11_suppose 11 2 R 89 L st μ := us_goto dX11_suppose_50 rfl
theorem u100_53 {d : Nat} {R : gR} {μ : gM} {l1 l2 l3 : Value} {st : List Value} {x : Nat}  : gc_W (gc_S d) cX11_suppose 11 2 R 53 [.ref x, l1, l2, l3] st μ ↔ gc_W (gc_S d) cX11_suppose 11 2 R 54 [.ref x, l1, l2, l3] (.ref x :: st) μ := us_aload_n dX11_suppose_53 rfl
theorem u100_54 {d : Nat} {R : gR} {μ : gM} {L : List Value} {st : List Value} {o : Nat} (hk : gc_kd o = 11) : gc_W (gc_S d) cX11_suppose 11 2 R 54 L (.ref o :: st) μ ↔ gc_W (gc_S d) cX11_suppose 11 2 R 57 L (gc_fv o 1 μ :: st) μ := us_getf dX11_suppose_54 gf_11_42 hk
theorem u100_57 {d : Nat} {R : gR} {μ : gM} {L : List Value} {st : List Value} {o : Nat} (hk : gc_kd o = 0) : gc_W (gc_S d) cX11_suppose 11 2 R 57 L (.ref o :: st) μ ↔ gc_W (gc_S d) cX11_suppose 11 2 R 60 L (gc_fv o 4 μ :: st) μ := us_getf dX11_suppose_57 gf_11_114 hk
theorem u100_60 {d : Nat} {R : gR} {μ : gM} {l0 l1 l3 : Value} {st : List Value} {x : Int32}  : gc_W (gc_S d) cX11_suppose 11 2 R 60 [l0, l1, .int x, l3] st μ ↔ gc_W (gc_S d) cX11_suppose 11 2 R 61 [l0, l1, .int x, l3] (.int x :: st) μ := us_iload_n dX11_suppose_60 rfl
theorem u100_61 {d : Nat} {R : gR} {μ : gM} {l0 l1 l2 : Value} {st : List Value} {x : Int32}  : gc_W (gc_S d) cX11_suppose 11 2 R 61 [l0, l1, l2, .int x] st μ ↔ gc_W (gc_S d) cX11_suppose 11 2 R 62 [l0, l1, l2, .int x] (.int x :: st) μ := us_iload_n dX11_suppose_61 rfl
theorem u100_62 {d : Nat} {R : gR} {μ : gM} {L : List Value} {st : List Value} {o : Nat} {i x : Int32} (hk : gc_kd o = 20) : gc_W (gc_S d) cX11_suppose 11 2 R 62 L (.int x :: .int i :: .ref o :: st) μ ↔ (vp_in i (gc_al o) ∧ gc_W (gc_S d) cX11_suppose 11 2 R 63 L st (gc_up μ o i.toNatClampNeg x)) := us_iast dX11_suppose_62 hk
theorem u100_63 {d : Nat} {R : gR} {μ : gM} {L : List Value} {st : List Value}  : gc_W (gc_S d) cX11_suppose 11 2 R 63 L st μ ↔ gc_W (gc_S d) cX11_suppose 11 2 R 89 L st μ := us_goto dX11_suppose_63 rfl
theorem u100_66 {d : Nat} {R : gR} {μ : gM} {l1 l2 l3 : Value} {st : List Value} {x : Nat}  : gc_W (gc_S d) cX11_suppose 11 2 R 66 [.ref x, l1, l2, l3] st μ ↔ gc_W (gc_S d) cX11_suppose 11 2 R 67 [.ref x, l1, l2, l3] (.ref x :: st) μ := us_aload_n dX11_suppose_66 rfl
theorem u100_67 {d : Nat} {R : gR} {μ : gM} {L : List Value} {st : List Value} {o : Nat} (hk : gc_kd o = 11) : gc_W (gc_S d) cX11_suppose 11 2 R 67 L (.ref o :: st) μ ↔ gc_W (gc_S d) cX11_suppose 11 2 R 70 L (gc_fv o 1 μ :: st) μ := us_getf dX11_suppose_67 gf_11_42 hk
theorem u100_70 {d : Nat} {R : gR} {μ : gM} {L : List Value} {st : List Value} {o : Nat} (hk : gc_kd o = 0) : gc_W (gc_S d) cX11_suppose 11 2 R 70 L (.ref o :: st) μ ↔ gc_W (gc_S d) cX11_suppose 11 2 R 73 L (gc_fv o 5 μ :: st) μ := us_getf dX11_suppose_70 gf_11_123 hk
theorem u100_73 {d : Nat} {R : gR} {μ : gM} {l0 l1 l3 : Value} {st : List Value} {x : Int32}  : gc_W (gc_S d) cX11_suppose 11 2 R 73 [l0, l1, .int x, l3] st μ ↔ gc_W (gc_S d) cX11_suppose 11 2 R 74 [l0, l1, .int x, l3] (.int x :: st) μ := us_iload_n dX11_suppose_73 rfl
theorem u100_74 {d : Nat} {R : gR} {μ : gM} {l0 l1 l2 : Value} {st : List Value} {x : Int32}  : gc_W (gc_S d) cX11_suppose 11 2 R 74 [l0, l1, l2, .int x] st μ ↔ gc_W (gc_S d) cX11_suppose 11 2 R 75 [l0, l1, l2, .int x] (.int x :: st) μ := us_iload_n dX11_suppose_74 rfl
theorem u100_75 {d : Nat} {R : gR} {μ : gM} {L : List Value} {st : List Value} {o : Nat} {i x : Int32} (hk : gc_kd o = 20) : gc_W (gc_S d) cX11_suppose 11 2 R 75 L (.int x :: .int i :: .ref o :: st) μ ↔ (vp_in i (gc_al o) ∧ gc_W (gc_S d) cX11_suppose 11 2 R 76 L st (gc_up μ o i.toNatClampNeg x)) := us_iast dX11_suppose_75 hk
theorem u100_76 {d : Nat} {R : gR} {μ : gM} {L : List Value} {st : List Value}  : gc_W (gc_S d) cX11_suppose 11 2 R 76 L st μ ↔ gc_W (gc_S d) cX11_suppose 11 2 R 89 L st μ := us_goto dX11_suppose_76 rfl
theorem u100_79 {d : Nat} {R : gR} {μ : gM} {l1 l2 l3 : Value} {st : List Value} {x : Nat}  : gc_W (gc_S d) cX11_suppose 11 2 R 79 [.ref x, l1, l2, l3] st μ ↔ gc_W (gc_S d) cX11_suppose 11 2 R 80 [.ref x, l1, l2, l3] (.ref x :: st) μ := us_aload_n dX11_suppose_79 rfl
theorem u100_80 {d : Nat} {R : gR} {μ : gM} {L : List Value} {st : List Value} {o : Nat} (hk : gc_kd o = 11) : gc_W (gc_S d) cX11_suppose 11 2 R 80 L (.ref o :: st) μ ↔ gc_W (gc_S d) cX11_suppose 11 2 R 83 L (gc_fv o 1 μ :: st) μ := us_getf dX11_suppose_80 gf_11_42 hk
theorem u100_83 {d : Nat} {R : gR} {μ : gM} {L : List Value} {st : List Value} {o : Nat} (hk : gc_kd o = 0) : gc_W (gc_S d) cX11_suppose 11 2 R 83 L (.ref o :: st) μ ↔ gc_W (gc_S d) cX11_suppose 11 2 R 86 L (gc_fv o 7 μ :: st) μ := us_getf dX11_suppose_83 gf_11_129 hk
theorem u100_86 {d : Nat} {R : gR} {μ : gM} {l0 l1 l3 : Value} {st : List Value} {x : Int32}  : gc_W (gc_S d) cX11_suppose 11 2 R 86 [l0, l1, .int x, l3] st μ ↔ gc_W (gc_S d) cX11_suppose 11 2 R 87 [l0, l1, .int x, l3] (.int x :: st) μ := us_iload_n dX11_suppose_86 rfl
theorem u100_87 {d : Nat} {R : gR} {μ : gM} {l0 l1 l2 : Value} {st : List Value} {x : Int32}  : gc_W (gc_S d) cX11_suppose 11 2 R 87 [l0, l1, l2, .int x] st μ ↔ gc_W (gc_S d) cX11_suppose 11 2 R 88 [l0, l1, l2, .int x] (.int x :: st) μ := us_iload_n dX11_suppose_87 rfl
theorem u100_88 {d : Nat} {R : gR} {μ : gM} {L : List Value} {st : List Value} {o : Nat} {i x : Int32} (hk : gc_kd o = 20) : gc_W (gc_S d) cX11_suppose 11 2 R 88 L (.int x :: .int i :: .ref o :: st) μ ↔ (vp_in i (gc_al o) ∧ gc_W (gc_S d) cX11_suppose 11 2 R 89 L st (gc_up μ o i.toNatClampNeg x)) := us_iast dX11_suppose_88 hk
theorem u100_89 {d : Nat} {R : gR} {μ : gM} {L : List Value}   : gc_W (gc_S d) cX11_suppose 11 2 R 89 L [] μ ↔ R none μ := us_vret dX11_suppose_89 rfl
theorem s100 {d : Nat} {R : gR} {μ : gM} {o : Nat} {a0 a1 a2 : Int32} : gc_S (d + 1) 100 [.ref o, .int a0, .int a1, .int a2] μ R ↔ gc_W (gc_S d) cX11_suppose 11 2 R 0 [.ref o, .int a0, .int a1, .int a2] [] μ := us_call (gm_100) rfl rfl
theorem dX11_leastWetting_0 : decode cX11_leastWetting 0 = .ok (.iconst 0, 1) := by decide +kernel
theorem dX11_leastWetting_1 : decode cX11_leastWetting 1 = .ok (.istore 5, 2) := by decide +kernel
theorem dX11_leastWetting_3 : decode cX11_leastWetting 3 = .ok (.sipush 1585, 3) := by decide +kernel
theorem dX11_leastWetting_6 : decode cX11_leastWetting 6 = .ok (.istore 6, 2) := by decide +kernel
theorem dX11_leastWetting_8 : decode cX11_leastWetting 8 = .ok (.iconst 0, 1) := by decide +kernel
theorem dX11_leastWetting_9 : decode cX11_leastWetting 9 = .ok (.istore 7, 2) := by decide +kernel
theorem dX11_leastWetting_11 : decode cX11_leastWetting 11 = .ok (.iload 7, 2) := by decide +kernel
theorem dX11_leastWetting_13 : decode cX11_leastWetting 13 = .ok (.iload_n 3, 1) := by decide +kernel
theorem dX11_leastWetting_14 : decode cX11_leastWetting 14 = .ok (.if_icmp .ge 64, 3) := by decide +kernel
theorem dX11_leastWetting_17 : decode cX11_leastWetting 17 = .ok (.aload_n 0, 1) := by decide +kernel
theorem dX11_leastWetting_18 : decode cX11_leastWetting 18 = .ok (.iload_n 1, 1) := by decide +kernel
theorem dX11_leastWetting_19 : decode cX11_leastWetting 19 = .ok (.iload_n 2, 1) := by decide +kernel
theorem dX11_leastWetting_20 : decode cX11_leastWetting 20 = .ok (.iload 7, 2) := by decide +kernel
theorem dX11_leastWetting_22 : decode cX11_leastWetting 22 = .ok (.invokevirtual 238, 3) := by decide +kernel
theorem dX11_leastWetting_25 : decode cX11_leastWetting 25 = .ok (.iconst 0, 1) := by decide +kernel
theorem dX11_leastWetting_26 : decode cX11_leastWetting 26 = .ok (.istore 8, 2) := by decide +kernel
theorem dX11_leastWetting_28 : decode cX11_leastWetting 28 = .ok (.iload 8, 2) := by decide +kernel
theorem dX11_leastWetting_30 : decode cX11_leastWetting 30 = .ok (.iload 4, 2) := by decide +kernel
theorem dX11_leastWetting_32 : decode cX11_leastWetting 32 = .ok (.if_icmp .ge 16, 3) := by decide +kernel
theorem dX11_leastWetting_35 : decode cX11_leastWetting 35 = .ok (.aload_n 0, 1) := by decide +kernel
theorem dX11_leastWetting_36 : decode cX11_leastWetting 36 = .ok (.getfield 42, 3) := by decide +kernel
theorem dX11_leastWetting_39 : decode cX11_leastWetting 39 = .ok (.invokevirtual 189, 3) := by decide +kernel
theorem dX11_leastWetting_42 : decode cX11_leastWetting 42 = .ok (.iinc 8 1, 3) := by decide +kernel
theorem dX11_leastWetting_45 : decode cX11_leastWetting 45 = .ok (.goto (-17), 3) := by decide +kernel
theorem dX11_leastWetting_48 : decode cX11_leastWetting 48 = .ok (.aload_n 0, 1) := by decide +kernel
theorem dX11_leastWetting_49 : decode cX11_leastWetting 49 = .ok (.getfield 42, 3) := by decide +kernel
theorem dX11_leastWetting_52 : decode cX11_leastWetting 52 = .ok (.invokevirtual 192, 3) := by decide +kernel
theorem dX11_leastWetting_55 : decode cX11_leastWetting 55 = .ok (.istore 8, 2) := by decide +kernel
theorem dX11_leastWetting_57 : decode cX11_leastWetting 57 = .ok (.iload 8, 2) := by decide +kernel
theorem dX11_leastWetting_59 : decode cX11_leastWetting 59 = .ok (.iload 6, 2) := by decide +kernel
theorem dX11_leastWetting_61 : decode cX11_leastWetting 61 = .ok (.if_icmp .ge 11, 3) := by decide +kernel
theorem dX11_leastWetting_64 : decode cX11_leastWetting 64 = .ok (.iload 8, 2) := by decide +kernel
theorem dX11_leastWetting_66 : decode cX11_leastWetting 66 = .ok (.istore 6, 2) := by decide +kernel
theorem dX11_leastWetting_68 : decode cX11_leastWetting 68 = .ok (.iload 7, 2) := by decide +kernel
theorem dX11_leastWetting_70 : decode cX11_leastWetting 70 = .ok (.istore 5, 2) := by decide +kernel
theorem dX11_leastWetting_72 : decode cX11_leastWetting 72 = .ok (.iinc 7 1, 3) := by decide +kernel
theorem dX11_leastWetting_75 : decode cX11_leastWetting 75 = .ok (.goto (-64), 3) := by decide +kernel
theorem dX11_leastWetting_78 : decode cX11_leastWetting 78 = .ok (.iload 5, 2) := by decide +kernel
theorem dX11_leastWetting_80 : decode cX11_leastWetting 80 = .ok (.ireturn, 1) := by decide +kernel
theorem u101_0 {d : Nat} {R : gR} {μ : gM} {L : List Value} {st : List Value}   : gc_W (gc_S d) cX11_leastWetting 11 0 R 0 L st μ ↔ gc_W (gc_S d) cX11_leastWetting 11 0 R 1 L (.int 0 :: st) μ := us_iconst dX11_leastWetting_0 ci_iconst_0
theorem u101_1 {d : Nat} {R : gR} {μ : gM} {l0 l1 l2 l3 l4 l5 l6 l7 l8 : Value} {st : List Value} {x : Int32} (hs : gc_sk l5 = true) : gc_W (gc_S d) cX11_leastWetting 11 0 R 1 [l0, l1, l2, l3, l4, l5, l6, l7, l8] (.int x :: st) μ ↔ gc_W (gc_S d) cX11_leastWetting 11 0 R 3 [l0, l1, l2, l3, l4, .int x, l6, l7, l8] st μ := us_istore dX11_leastWetting_1 rfl hs
theorem u101_3 {d : Nat} {R : gR} {μ : gM} {L : List Value} {st : List Value}   : gc_W (gc_S d) cX11_leastWetting 11 0 R 3 L st μ ↔ gc_W (gc_S d) cX11_leastWetting 11 0 R 6 L (.int 1585 :: st) μ := us_sipush dX11_leastWetting_3 ci_sipush_1585
theorem u101_6 {d : Nat} {R : gR} {μ : gM} {l0 l1 l2 l3 l4 l5 l6 l7 l8 : Value} {st : List Value} {x : Int32} (hs : gc_sk l6 = true) : gc_W (gc_S d) cX11_leastWetting 11 0 R 6 [l0, l1, l2, l3, l4, l5, l6, l7, l8] (.int x :: st) μ ↔ gc_W (gc_S d) cX11_leastWetting 11 0 R 8 [l0, l1, l2, l3, l4, l5, .int x, l7, l8] st μ := us_istore dX11_leastWetting_6 rfl hs
theorem u101_8 {d : Nat} {R : gR} {μ : gM} {L : List Value} {st : List Value}   : gc_W (gc_S d) cX11_leastWetting 11 0 R 8 L st μ ↔ gc_W (gc_S d) cX11_leastWetting 11 0 R 9 L (.int 0 :: st) μ := us_iconst dX11_leastWetting_8 ci_iconst_0
theorem u101_9 {d : Nat} {R : gR} {μ : gM} {l0 l1 l2 l3 l4 l5 l6 l7 l8 : Value} {st : List Value} {x : Int32} (hs : gc_sk l7 = true) : gc_W (gc_S d) cX11_leastWetting 11 0 R 9 [l0, l1, l2, l3, l4, l5, l6, l7, l8] (.int x :: st) μ ↔ gc_W (gc_S d) cX11_leastWetting 11 0 R 11 [l0, l1, l2, l3, l4, l5, l6, .int x, l8] st μ := us_istore dX11_leastWetting_9 rfl hs
theorem u101_11 {d : Nat} {R : gR} {μ : gM} {l0 l1 l2 l3 l4 l5 l6 l8 : Value} {st : List Value} {x : Int32}  : gc_W (gc_S d) cX11_leastWetting 11 0 R 11 [l0, l1, l2, l3, l4, l5, l6, .int x, l8] st μ ↔ gc_W (gc_S d) cX11_leastWetting 11 0 R 13 [l0, l1, l2, l3, l4, l5, l6, .int x, l8] (.int x :: st) μ := us_iload dX11_leastWetting_11 rfl
theorem u101_13 {d : Nat} {R : gR} {μ : gM} {l0 l1 l2 l4 l5 l6 l7 l8 : Value} {st : List Value} {x : Int32}  : gc_W (gc_S d) cX11_leastWetting 11 0 R 13 [l0, l1, l2, .int x, l4, l5, l6, l7, l8] st μ ↔ gc_W (gc_S d) cX11_leastWetting 11 0 R 14 [l0, l1, l2, .int x, l4, l5, l6, l7, l8] (.int x :: st) μ := us_iload_n dX11_leastWetting_13 rfl
theorem u101_14 {d : Nat} {R : gR} {μ : gM} {L : List Value} {st : List Value} {x y : Int32}  : gc_W (gc_S d) cX11_leastWetting 11 0 R 14 L (.int y :: .int x :: st) μ ↔ if y ≤ x then gc_W (gc_S d) cX11_leastWetting 11 0 R 78 L st μ else gc_W (gc_S d) cX11_leastWetting 11 0 R 17 L st μ := us_icge dX11_leastWetting_14 rfl
theorem u101_17 {d : Nat} {R : gR} {μ : gM} {l1 l2 l3 l4 l5 l6 l7 l8 : Value} {st : List Value} {x : Nat}  : gc_W (gc_S d) cX11_leastWetting 11 0 R 17 [.ref x, l1, l2, l3, l4, l5, l6, l7, l8] st μ ↔ gc_W (gc_S d) cX11_leastWetting 11 0 R 18 [.ref x, l1, l2, l3, l4, l5, l6, l7, l8] (.ref x :: st) μ := us_aload_n dX11_leastWetting_17 rfl
theorem u101_18 {d : Nat} {R : gR} {μ : gM} {l0 l2 l3 l4 l5 l6 l7 l8 : Value} {st : List Value} {x : Int32}  : gc_W (gc_S d) cX11_leastWetting 11 0 R 18 [l0, .int x, l2, l3, l4, l5, l6, l7, l8] st μ ↔ gc_W (gc_S d) cX11_leastWetting 11 0 R 19 [l0, .int x, l2, l3, l4, l5, l6, l7, l8] (.int x :: st) μ := us_iload_n dX11_leastWetting_18 rfl
theorem u101_19 {d : Nat} {R : gR} {μ : gM} {l0 l1 l3 l4 l5 l6 l7 l8 : Value} {st : List Value} {x : Int32}  : gc_W (gc_S d) cX11_leastWetting 11 0 R 19 [l0, l1, .int x, l3, l4, l5, l6, l7, l8] st μ ↔ gc_W (gc_S d) cX11_leastWetting 11 0 R 20 [l0, l1, .int x, l3, l4, l5, l6, l7, l8] (.int x :: st) μ := us_iload_n dX11_leastWetting_19 rfl
theorem u101_20 {d : Nat} {R : gR} {μ : gM} {l0 l1 l2 l3 l4 l5 l6 l8 : Value} {st : List Value} {x : Int32}  : gc_W (gc_S d) cX11_leastWetting 11 0 R 20 [l0, l1, l2, l3, l4, l5, l6, .int x, l8] st μ ↔ gc_W (gc_S d) cX11_leastWetting 11 0 R 22 [l0, l1, l2, l3, l4, l5, l6, .int x, l8] (.int x :: st) μ := us_iload dX11_leastWetting_20 rfl
theorem u101_22 {d : Nat} {R : gR} {μ : gM} {L : List Value} {o : Nat} {a0 a1 a2 : Int32} (hk : gc_kd o = 11) : gc_W (gc_S d) cX11_leastWetting 11 0 R 22 L [.int a2, .int a1, .int a0, .ref o] μ ↔ gc_S d 100 [.ref o, .int a0, .int a1, .int a2] μ (fun v μ' => gc_W (gc_S d) cX11_leastWetting 11 0 R 25 L (v.toList ++ []) μ') := us_virt dX11_leastWetting_22 gn_11_238 gc_11_238_11 hk rfl rfl rfl rfl rfl
theorem u101_25 {d : Nat} {R : gR} {μ : gM} {L : List Value} {st : List Value}   : gc_W (gc_S d) cX11_leastWetting 11 0 R 25 L st μ ↔ gc_W (gc_S d) cX11_leastWetting 11 0 R 26 L (.int 0 :: st) μ := us_iconst dX11_leastWetting_25 ci_iconst_0
theorem u101_26 {d : Nat} {R : gR} {μ : gM} {l0 l1 l2 l3 l4 l5 l6 l7 l8 : Value} {st : List Value} {x : Int32} (hs : gc_sk l8 = true) : gc_W (gc_S d) cX11_leastWetting 11 0 R 26 [l0, l1, l2, l3, l4, l5, l6, l7, l8] (.int x :: st) μ ↔ gc_W (gc_S d) cX11_leastWetting 11 0 R 28 [l0, l1, l2, l3, l4, l5, l6, l7, .int x] st μ := us_istore dX11_leastWetting_26 rfl hs
theorem u101_28 {d : Nat} {R : gR} {μ : gM} {l0 l1 l2 l3 l4 l5 l6 l7 : Value} {st : List Value} {x : Int32}  : gc_W (gc_S d) cX11_leastWetting 11 0 R 28 [l0, l1, l2, l3, l4, l5, l6, l7, .int x] st μ ↔ gc_W (gc_S d) cX11_leastWetting 11 0 R 30 [l0, l1, l2, l3, l4, l5, l6, l7, .int x] (.int x :: st) μ := us_iload dX11_leastWetting_28 rfl
theorem u101_30 {d : Nat} {R : gR} {μ : gM} {l0 l1 l2 l3 l5 l6 l7 l8 : Value} {st : List Value} {x : Int32}  : gc_W (gc_S d) cX11_leastWetting 11 0 R 30 [l0, l1, l2, l3, .int x, l5, l6, l7, l8] st μ ↔ gc_W (gc_S d) cX11_leastWetting 11 0 R 32 [l0, l1, l2, l3, .int x, l5, l6, l7, l8] (.int x :: st) μ := us_iload dX11_leastWetting_30 rfl
theorem u101_32 {d : Nat} {R : gR} {μ : gM} {L : List Value} {st : List Value} {x y : Int32}  : gc_W (gc_S d) cX11_leastWetting 11 0 R 32 L (.int y :: .int x :: st) μ ↔ if y ≤ x then gc_W (gc_S d) cX11_leastWetting 11 0 R 48 L st μ else gc_W (gc_S d) cX11_leastWetting 11 0 R 35 L st μ := us_icge dX11_leastWetting_32 rfl
theorem u101_35 {d : Nat} {R : gR} {μ : gM} {l1 l2 l3 l4 l5 l6 l7 l8 : Value} {st : List Value} {x : Nat}  : gc_W (gc_S d) cX11_leastWetting 11 0 R 35 [.ref x, l1, l2, l3, l4, l5, l6, l7, l8] st μ ↔ gc_W (gc_S d) cX11_leastWetting 11 0 R 36 [.ref x, l1, l2, l3, l4, l5, l6, l7, l8] (.ref x :: st) μ := us_aload_n dX11_leastWetting_35 rfl
theorem u101_36 {d : Nat} {R : gR} {μ : gM} {L : List Value} {st : List Value} {o : Nat} (hk : gc_kd o = 11) : gc_W (gc_S d) cX11_leastWetting 11 0 R 36 L (.ref o :: st) μ ↔ gc_W (gc_S d) cX11_leastWetting 11 0 R 39 L (gc_fv o 1 μ :: st) μ := us_getf dX11_leastWetting_36 gf_11_42 hk
theorem u101_39 {d : Nat} {R : gR} {μ : gM} {L : List Value} {o : Nat} (hk : gc_kd o = 0) : gc_W (gc_S d) cX11_leastWetting 11 0 R 39 L [.ref o] μ ↔ gc_S d 38 [.ref o] μ (fun v μ' => gc_W (gc_S d) cX11_leastWetting 11 0 R 42 L (v.toList ++ []) μ') := us_virt dX11_leastWetting_39 gn_11_189 gc_11_189_0 hk rfl rfl rfl rfl rfl
theorem u101_42 {d : Nat} {R : gR} {μ : gM} {l0 l1 l2 l3 l4 l5 l6 l7 : Value} {st : List Value} {x : Int32}  : gc_W (gc_S d) cX11_leastWetting 11 0 R 42 [l0, l1, l2, l3, l4, l5, l6, l7, .int x] st μ ↔ gc_W (gc_S d) cX11_leastWetting 11 0 R 45 [l0, l1, l2, l3, l4, l5, l6, l7, .int (x + 1)] st μ := us_iinc dX11_leastWetting_42 rfl ci_iinc_1
theorem u101_45 {d : Nat} {R : gR} {μ : gM} {L : List Value} {st : List Value}  : gc_W (gc_S d) cX11_leastWetting 11 0 R 45 L st μ ↔ gc_W (gc_S d) cX11_leastWetting 11 0 R 28 L st μ := us_goto dX11_leastWetting_45 rfl
theorem u101_48 {d : Nat} {R : gR} {μ : gM} {l1 l2 l3 l4 l5 l6 l7 l8 : Value} {st : List Value} {x : Nat}  : gc_W (gc_S d) cX11_leastWetting 11 0 R 48 [.ref x, l1, l2, l3, l4, l5, l6, l7, l8] st μ ↔ gc_W (gc_S d) cX11_leastWetting 11 0 R 49 [.ref x, l1, l2, l3, l4, l5, l6, l7, l8] (.ref x :: st) μ := us_aload_n dX11_leastWetting_48 rfl
theorem u101_49 {d : Nat} {R : gR} {μ : gM} {L : List Value} {st : List Value} {o : Nat} (hk : gc_kd o = 11) : gc_W (gc_S d) cX11_leastWetting 11 0 R 49 L (.ref o :: st) μ ↔ gc_W (gc_S d) cX11_leastWetting 11 0 R 52 L (gc_fv o 1 μ :: st) μ := us_getf dX11_leastWetting_49 gf_11_42 hk
theorem u101_52 {d : Nat} {R : gR} {μ : gM} {L : List Value} {o : Nat} (hk : gc_kd o = 0) : gc_W (gc_S d) cX11_leastWetting 11 0 R 52 L [.ref o] μ ↔ gc_S d 8 [.ref o] μ (fun v μ' => gc_W (gc_S d) cX11_leastWetting 11 0 R 55 L (v.toList ++ []) μ') := us_virt dX11_leastWetting_52 gn_11_192 gc_11_192_0 hk rfl rfl rfl rfl rfl
theorem u101_55 {d : Nat} {R : gR} {μ : gM} {l0 l1 l2 l3 l4 l5 l6 l7 l8 : Value} {st : List Value} {x : Int32} (hs : gc_sk l8 = true) : gc_W (gc_S d) cX11_leastWetting 11 0 R 55 [l0, l1, l2, l3, l4, l5, l6, l7, l8] (.int x :: st) μ ↔ gc_W (gc_S d) cX11_leastWetting 11 0 R 57 [l0, l1, l2, l3, l4, l5, l6, l7, .int x] st μ := us_istore dX11_leastWetting_55 rfl hs
theorem u101_57 {d : Nat} {R : gR} {μ : gM} {l0 l1 l2 l3 l4 l5 l6 l7 : Value} {st : List Value} {x : Int32}  : gc_W (gc_S d) cX11_leastWetting 11 0 R 57 [l0, l1, l2, l3, l4, l5, l6, l7, .int x] st μ ↔ gc_W (gc_S d) cX11_leastWetting 11 0 R 59 [l0, l1, l2, l3, l4, l5, l6, l7, .int x] (.int x :: st) μ := us_iload dX11_leastWetting_57 rfl
theorem u101_59 {d : Nat} {R : gR} {μ : gM} {l0 l1 l2 l3 l4 l5 l7 l8 : Value} {st : List Value} {x : Int32}  : gc_W (gc_S d) cX11_leastWetting 11 0 R 59 [l0, l1, l2, l3, l4, l5, .int x, l7, l8] st μ ↔ gc_W (gc_S d) cX11_leastWetting 11 0 R 61 [l0, l1, l2, l3, l4, l5, .int x, l7, l8] (.int x :: st) μ := us_iload dX11_leastWetting_59 rfl
theorem u101_61 {d : Nat} {R : gR} {μ : gM} {L : List Value} {st : List Value} {x y : Int32}  : gc_W (gc_S d) cX11_leastWetting 11 0 R 61 L (.int y :: .int x :: st) μ ↔ if y ≤ x then gc_W (gc_S d) cX11_leastWetting 11 0 R 72 L st μ else gc_W (gc_S d) cX11_leastWetting 11 0 R 64 L st μ := us_icge dX11_leastWetting_61 rfl
theorem u101_64 {d : Nat} {R : gR} {μ : gM} {l0 l1 l2 l3 l4 l5 l6 l7 : Value} {st : List Value} {x : Int32}  : gc_W (gc_S d) cX11_leastWetting 11 0 R 64 [l0, l1, l2, l3, l4, l5, l6, l7, .int x] st μ ↔ gc_W (gc_S d) cX11_leastWetting 11 0 R 66 [l0, l1, l2, l3, l4, l5, l6, l7, .int x] (.int x :: st) μ := us_iload dX11_leastWetting_64 rfl
theorem u101_66 {d : Nat} {R : gR} {μ : gM} {l0 l1 l2 l3 l4 l5 l6 l7 l8 : Value} {st : List Value} {x : Int32} (hs : gc_sk l6 = true) : gc_W (gc_S d) cX11_leastWetting 11 0 R 66 [l0, l1, l2, l3, l4, l5, l6, l7, l8] (.int x :: st) μ ↔ gc_W (gc_S d) cX11_leastWetting 11 0 R 68 [l0, l1, l2, l3, l4, l5, .int x, l7, l8] st μ := us_istore dX11_leastWetting_66 rfl hs
theorem u101_68 {d : Nat} {R : gR} {μ : gM} {l0 l1 l2 l3 l4 l5 l6 l8 : Value} {st : List Value} {x : Int32}  : gc_W (gc_S d) cX11_leastWetting 11 0 R 68 [l0, l1, l2, l3, l4, l5, l6, .int x, l8] st μ ↔ gc_W (gc_S d) cX11_leastWetting 11 0 R 70 [l0, l1, l2, l3, l4, l5, l6, .int x, l8] (.int x :: st) μ := us_iload dX11_leastWetting_68 rfl
theorem u101_70 {d : Nat} {R : gR} {μ : gM} {l0 l1 l2 l3 l4 l5 l6 l7 l8 : Value} {st : List Value} {x : Int32} (hs : gc_sk l5 = true) : gc_W (gc_S d) cX11_leastWetting 11 0 R 70 [l0, l1, l2, l3, l4, l5, l6, l7, l8] (.int x :: st) μ ↔ gc_W (gc_S d) cX11_leastWetting 11 0 R 72 [l0, l1, l2, l3, l4, .int x, l6, l7, l8] st μ := us_istore dX11_leastWetting_70 rfl hs
theorem u101_72 {d : Nat} {R : gR} {μ : gM} {l0 l1 l2 l3 l4 l5 l6 l8 : Value} {st : List Value} {x : Int32}  : gc_W (gc_S d) cX11_leastWetting 11 0 R 72 [l0, l1, l2, l3, l4, l5, l6, .int x, l8] st μ ↔ gc_W (gc_S d) cX11_leastWetting 11 0 R 75 [l0, l1, l2, l3, l4, l5, l6, .int (x + 1), l8] st μ := us_iinc dX11_leastWetting_72 rfl ci_iinc_1
theorem u101_75 {d : Nat} {R : gR} {μ : gM} {L : List Value} {st : List Value}  : gc_W (gc_S d) cX11_leastWetting 11 0 R 75 L st μ ↔ gc_W (gc_S d) cX11_leastWetting 11 0 R 11 L st μ := us_goto dX11_leastWetting_75 rfl
theorem u101_78 {d : Nat} {R : gR} {μ : gM} {l0 l1 l2 l3 l4 l6 l7 l8 : Value} {st : List Value} {x : Int32}  : gc_W (gc_S d) cX11_leastWetting 11 0 R 78 [l0, l1, l2, l3, l4, .int x, l6, l7, l8] st μ ↔ gc_W (gc_S d) cX11_leastWetting 11 0 R 80 [l0, l1, l2, l3, l4, .int x, l6, l7, l8] (.int x :: st) μ := us_iload dX11_leastWetting_78 rfl
theorem u101_80 {d : Nat} {R : gR} {μ : gM} {L : List Value} {v : Int32}  : gc_W (gc_S d) cX11_leastWetting 11 0 R 80 L [.int v] μ ↔ R (some (.int v)) μ := us_iret dX11_leastWetting_80 rfl
theorem s101 {d : Nat} {R : gR} {μ : gM} {o : Nat} {a0 a1 a2 a3 : Int32} : gc_S (d + 1) 101 [.ref o, .int a0, .int a1, .int a2, .int a3] μ R ↔ gc_W (gc_S d) cX11_leastWetting 11 0 R 0 [.ref o, .int a0, .int a1, .int a2, .int a3, .retAddr 0, .retAddr 0, .retAddr 0, .retAddr 0] [] μ := us_call (gm_101) rfl rfl
theorem dX11_cellFor_0 : decode cX11_cellFor 0 = .ok (.aload_n 0, 1) := by decide +kernel
theorem dX11_cellFor_1 : decode cX11_cellFor 1 = .ok (.iload_n 1, 1) := by decide +kernel
theorem dX11_cellFor_2 : decode cX11_cellFor 2 = .ok (.invokevirtual 135, 3) := by decide +kernel
theorem dX11_cellFor_5 : decode cX11_cellFor 5 = .ok (.ifCond .eq 12, 3) := by decide +kernel
theorem dX11_cellFor_8 : decode cX11_cellFor 8 = .ok (.bipush 60, 2) := by decide +kernel
theorem dX11_cellFor_10 : decode cX11_cellFor 10 = .ok (.iload_n 2, 1) := by decide +kernel
theorem dX11_cellFor_11 : decode cX11_cellFor 11 = .ok (.invokestatic 84, 3) := by decide +kernel
theorem dX11_cellFor_14 : decode cX11_cellFor 14 = .ok (.ifCond .ne 9, 3) := by decide +kernel
theorem dX11_cellFor_17 : decode cX11_cellFor 17 = .ok (.aload_n 0, 1) := by decide +kernel
theorem dX11_cellFor_18 : decode cX11_cellFor 18 = .ok (.iconst 1, 1) := by decide +kernel
theorem dX11_cellFor_19 : decode cX11_cellFor 19 = .ok (.invokevirtual 88, 3) := by decide +kernel
theorem dX11_cellFor_22 : decode cX11_cellFor 22 = .ok (.ireturn, 1) := by decide +kernel
theorem dX11_cellFor_23 : decode cX11_cellFor 23 = .ok (.aload_n 0, 1) := by decide +kernel
theorem dX11_cellFor_24 : decode cX11_cellFor 24 = .ok (.iconst 0, 1) := by decide +kernel
theorem dX11_cellFor_25 : decode cX11_cellFor 25 = .ok (.iload_n 1, 1) := by decide +kernel
theorem dX11_cellFor_26 : decode cX11_cellFor 26 = .ok (.bipush 16, 2) := by decide +kernel
theorem dX11_cellFor_28 : decode cX11_cellFor 28 = .ok (.iload_n 2, 1) := by decide +kernel
theorem dX11_cellFor_29 : decode cX11_cellFor 29 = .ok (.invokevirtual 211, 3) := by decide +kernel
theorem dX11_cellFor_32 : decode cX11_cellFor 32 = .ok (.ireturn, 1) := by decide +kernel
theorem u102_0 {d : Nat} {R : gR} {μ : gM} {l1 l2 : Value} {st : List Value} {x : Nat}  : gc_W (gc_S d) cX11_cellFor 11 0 R 0 [.ref x, l1, l2] st μ ↔ gc_W (gc_S d) cX11_cellFor 11 0 R 1 [.ref x, l1, l2] (.ref x :: st) μ := us_aload_n dX11_cellFor_0 rfl
theorem u102_1 {d : Nat} {R : gR} {μ : gM} {l0 l2 : Value} {st : List Value} {x : Int32}  : gc_W (gc_S d) cX11_cellFor 11 0 R 1 [l0, .int x, l2] st μ ↔ gc_W (gc_S d) cX11_cellFor 11 0 R 2 [l0, .int x, l2] (.int x :: st) μ := us_iload_n dX11_cellFor_1 rfl
theorem u102_2 {d : Nat} {R : gR} {μ : gM} {L : List Value} {o : Nat} {a0 : Int32} (hk : gc_kd o = 11) : gc_W (gc_S d) cX11_cellFor 11 0 R 2 L [.int a0, .ref o] μ ↔ gc_S d 82 [.ref o, .int a0] μ (fun v μ' => gc_W (gc_S d) cX11_cellFor 11 0 R 5 L (v.toList ++ []) μ') := us_virt dX11_cellFor_2 gn_11_135 gc_11_135_11 hk rfl rfl rfl rfl rfl
theorem u102_5 {d : Nat} {R : gR} {μ : gM} {L : List Value} {st : List Value} {x : Int32}  : gc_W (gc_S d) cX11_cellFor 11 0 R 5 L (.int x :: st) μ ↔ if x = 0 then gc_W (gc_S d) cX11_cellFor 11 0 R 17 L st μ else gc_W (gc_S d) cX11_cellFor 11 0 R 8 L st μ := us_ifeq dX11_cellFor_5 rfl
theorem u102_8 {d : Nat} {R : gR} {μ : gM} {L : List Value} {st : List Value}   : gc_W (gc_S d) cX11_cellFor 11 0 R 8 L st μ ↔ gc_W (gc_S d) cX11_cellFor 11 0 R 10 L (.int 60 :: st) μ := us_bipush dX11_cellFor_8 ci_bipush_60
theorem u102_10 {d : Nat} {R : gR} {μ : gM} {l0 l1 : Value} {st : List Value} {x : Int32}  : gc_W (gc_S d) cX11_cellFor 11 0 R 10 [l0, l1, .int x] st μ ↔ gc_W (gc_S d) cX11_cellFor 11 0 R 11 [l0, l1, .int x] (.int x :: st) μ := us_iload_n dX11_cellFor_10 rfl
theorem u102_11 {d : Nat} {R : gR} {μ : gM} {L : List Value}  {a0 a1 : Int32}  : gc_W (gc_S d) cX11_cellFor 11 0 R 11 L [.int a1, .int a0] μ ↔ gc_S d 73 [.int a0, .int a1] μ (fun v μ' => gc_W (gc_S d) cX11_cellFor 11 0 R 14 L (v.toList ++ []) μ') := us_stat dX11_cellFor_11 gs_11_84 gne_11_84 gn_11_84 gc_11_84_97 rfl rfl rfl rfl
theorem u102_14 {d : Nat} {R : gR} {μ : gM} {L : List Value} {st : List Value} {x : Int32}  : gc_W (gc_S d) cX11_cellFor 11 0 R 14 L (.int x :: st) μ ↔ if x = 0 then gc_W (gc_S d) cX11_cellFor 11 0 R 17 L st μ else gc_W (gc_S d) cX11_cellFor 11 0 R 23 L st μ := us_ifne dX11_cellFor_14 rfl
theorem u102_17 {d : Nat} {R : gR} {μ : gM} {l1 l2 : Value} {st : List Value} {x : Nat}  : gc_W (gc_S d) cX11_cellFor 11 0 R 17 [.ref x, l1, l2] st μ ↔ gc_W (gc_S d) cX11_cellFor 11 0 R 18 [.ref x, l1, l2] (.ref x :: st) μ := us_aload_n dX11_cellFor_17 rfl
theorem u102_18 {d : Nat} {R : gR} {μ : gM} {L : List Value} {st : List Value}   : gc_W (gc_S d) cX11_cellFor 11 0 R 18 L st μ ↔ gc_W (gc_S d) cX11_cellFor 11 0 R 19 L (.int 1 :: st) μ := us_iconst dX11_cellFor_18 ci_iconst_1
theorem u102_19 {d : Nat} {R : gR} {μ : gM} {L : List Value} {o : Nat} {a0 : Int32} (hk : gc_kd o = 11) : gc_W (gc_S d) cX11_cellFor 11 0 R 19 L [.int a0, .ref o] μ ↔ gc_S d 75 [.ref o, .int a0] μ (fun v μ' => gc_W (gc_S d) cX11_cellFor 11 0 R 22 L (v.toList ++ []) μ') := us_virt dX11_cellFor_19 gn_11_88 gc_11_88_11 hk rfl rfl rfl rfl rfl
theorem u102_22 {d : Nat} {R : gR} {μ : gM} {L : List Value} {v : Int32}  : gc_W (gc_S d) cX11_cellFor 11 0 R 22 L [.int v] μ ↔ R (some (.int v)) μ := us_iret dX11_cellFor_22 rfl
theorem u102_23 {d : Nat} {R : gR} {μ : gM} {l1 l2 : Value} {st : List Value} {x : Nat}  : gc_W (gc_S d) cX11_cellFor 11 0 R 23 [.ref x, l1, l2] st μ ↔ gc_W (gc_S d) cX11_cellFor 11 0 R 24 [.ref x, l1, l2] (.ref x :: st) μ := us_aload_n dX11_cellFor_23 rfl
theorem u102_24 {d : Nat} {R : gR} {μ : gM} {L : List Value} {st : List Value}   : gc_W (gc_S d) cX11_cellFor 11 0 R 24 L st μ ↔ gc_W (gc_S d) cX11_cellFor 11 0 R 25 L (.int 0 :: st) μ := us_iconst dX11_cellFor_24 ci_iconst_0
theorem u102_25 {d : Nat} {R : gR} {μ : gM} {l0 l2 : Value} {st : List Value} {x : Int32}  : gc_W (gc_S d) cX11_cellFor 11 0 R 25 [l0, .int x, l2] st μ ↔ gc_W (gc_S d) cX11_cellFor 11 0 R 26 [l0, .int x, l2] (.int x :: st) μ := us_iload_n dX11_cellFor_25 rfl
theorem u102_26 {d : Nat} {R : gR} {μ : gM} {L : List Value} {st : List Value}   : gc_W (gc_S d) cX11_cellFor 11 0 R 26 L st μ ↔ gc_W (gc_S d) cX11_cellFor 11 0 R 28 L (.int 16 :: st) μ := us_bipush dX11_cellFor_26 ci_bipush_16
theorem u102_28 {d : Nat} {R : gR} {μ : gM} {l0 l1 : Value} {st : List Value} {x : Int32}  : gc_W (gc_S d) cX11_cellFor 11 0 R 28 [l0, l1, .int x] st μ ↔ gc_W (gc_S d) cX11_cellFor 11 0 R 29 [l0, l1, .int x] (.int x :: st) μ := us_iload_n dX11_cellFor_28 rfl
theorem u102_29 {d : Nat} {R : gR} {μ : gM} {L : List Value} {o : Nat} {a0 a1 a2 a3 : Int32} (hk : gc_kd o = 11) : gc_W (gc_S d) cX11_cellFor 11 0 R 29 L [.int a3, .int a2, .int a1, .int a0, .ref o] μ ↔ gc_S d 101 [.ref o, .int a0, .int a1, .int a2, .int a3] μ (fun v μ' => gc_W (gc_S d) cX11_cellFor 11 0 R 32 L (v.toList ++ []) μ') := us_virt dX11_cellFor_29 gn_11_211 gc_11_211_11 hk rfl rfl rfl rfl rfl
theorem u102_32 {d : Nat} {R : gR} {μ : gM} {L : List Value} {v : Int32}  : gc_W (gc_S d) cX11_cellFor 11 0 R 32 L [.int v] μ ↔ R (some (.int v)) μ := us_iret dX11_cellFor_32 rfl
theorem s102 {d : Nat} {R : gR} {μ : gM} {o : Nat} {a0 a1 : Int32} : gc_S (d + 1) 102 [.ref o, .int a0, .int a1] μ R ↔ gc_W (gc_S d) cX11_cellFor 11 0 R 0 [.ref o, .int a0, .int a1] [] μ := us_call (gm_102) rfl rfl
theorem dX11_comesFor_0 : decode cX11_comesFor 0 = .ok (.iconst 5, 1) := by decide +kernel
theorem dX11_comesFor_1 : decode cX11_comesFor 1 = .ok (.iload_n 1, 1) := by decide +kernel
theorem dX11_comesFor_2 : decode cX11_comesFor 2 = .ok (.invokestatic 84, 3) := by decide +kernel
theorem dX11_comesFor_5 : decode cX11_comesFor 5 = .ok (.ifCond .eq 12, 3) := by decide +kernel
theorem dX11_comesFor_8 : decode cX11_comesFor 8 = .ok (.bipush 60, 2) := by decide +kernel
theorem dX11_comesFor_10 : decode cX11_comesFor 10 = .ok (.iload_n 2, 1) := by decide +kernel
theorem dX11_comesFor_11 : decode cX11_comesFor 11 = .ok (.invokestatic 84, 3) := by decide +kernel
theorem dX11_comesFor_14 : decode cX11_comesFor 14 = .ok (.ifCond .ne 9, 3) := by decide +kernel
theorem dX11_comesFor_17 : decode cX11_comesFor 17 = .ok (.aload_n 0, 1) := by decide +kernel
theorem dX11_comesFor_18 : decode cX11_comesFor 18 = .ok (.iconst 1, 1) := by decide +kernel
theorem dX11_comesFor_19 : decode cX11_comesFor 19 = .ok (.invokevirtual 88, 3) := by decide +kernel
theorem dX11_comesFor_22 : decode cX11_comesFor 22 = .ok (.ireturn, 1) := by decide +kernel
theorem dX11_comesFor_23 : decode cX11_comesFor 23 = .ok (.aload_n 0, 1) := by decide +kernel
theorem dX11_comesFor_24 : decode cX11_comesFor 24 = .ok (.iconst 1, 1) := by decide +kernel
theorem dX11_comesFor_25 : decode cX11_comesFor 25 = .ok (.iload_n 1, 1) := by decide +kernel
theorem dX11_comesFor_26 : decode cX11_comesFor 26 = .ok (.bipush 8, 2) := by decide +kernel
theorem dX11_comesFor_28 : decode cX11_comesFor 28 = .ok (.iload_n 2, 1) := by decide +kernel
theorem dX11_comesFor_29 : decode cX11_comesFor 29 = .ok (.invokevirtual 211, 3) := by decide +kernel
theorem dX11_comesFor_32 : decode cX11_comesFor 32 = .ok (.ireturn, 1) := by decide +kernel
theorem u103_0 {d : Nat} {R : gR} {μ : gM} {L : List Value} {st : List Value}   : gc_W (gc_S d) cX11_comesFor 11 0 R 0 L st μ ↔ gc_W (gc_S d) cX11_comesFor 11 0 R 1 L (.int 5 :: st) μ := us_iconst dX11_comesFor_0 ci_iconst_5
theorem u103_1 {d : Nat} {R : gR} {μ : gM} {l0 l2 : Value} {st : List Value} {x : Int32}  : gc_W (gc_S d) cX11_comesFor 11 0 R 1 [l0, .int x, l2] st μ ↔ gc_W (gc_S d) cX11_comesFor 11 0 R 2 [l0, .int x, l2] (.int x :: st) μ := us_iload_n dX11_comesFor_1 rfl
theorem u103_2 {d : Nat} {R : gR} {μ : gM} {L : List Value}  {a0 a1 : Int32}  : gc_W (gc_S d) cX11_comesFor 11 0 R 2 L [.int a1, .int a0] μ ↔ gc_S d 73 [.int a0, .int a1] μ (fun v μ' => gc_W (gc_S d) cX11_comesFor 11 0 R 5 L (v.toList ++ []) μ') := us_stat dX11_comesFor_2 gs_11_84 gne_11_84 gn_11_84 gc_11_84_97 rfl rfl rfl rfl
theorem u103_5 {d : Nat} {R : gR} {μ : gM} {L : List Value} {st : List Value} {x : Int32}  : gc_W (gc_S d) cX11_comesFor 11 0 R 5 L (.int x :: st) μ ↔ if x = 0 then gc_W (gc_S d) cX11_comesFor 11 0 R 17 L st μ else gc_W (gc_S d) cX11_comesFor 11 0 R 8 L st μ := us_ifeq dX11_comesFor_5 rfl
theorem u103_8 {d : Nat} {R : gR} {μ : gM} {L : List Value} {st : List Value}   : gc_W (gc_S d) cX11_comesFor 11 0 R 8 L st μ ↔ gc_W (gc_S d) cX11_comesFor 11 0 R 10 L (.int 60 :: st) μ := us_bipush dX11_comesFor_8 ci_bipush_60
theorem u103_10 {d : Nat} {R : gR} {μ : gM} {l0 l1 : Value} {st : List Value} {x : Int32}  : gc_W (gc_S d) cX11_comesFor 11 0 R 10 [l0, l1, .int x] st μ ↔ gc_W (gc_S d) cX11_comesFor 11 0 R 11 [l0, l1, .int x] (.int x :: st) μ := us_iload_n dX11_comesFor_10 rfl
theorem u103_11 {d : Nat} {R : gR} {μ : gM} {L : List Value}  {a0 a1 : Int32}  : gc_W (gc_S d) cX11_comesFor 11 0 R 11 L [.int a1, .int a0] μ ↔ gc_S d 73 [.int a0, .int a1] μ (fun v μ' => gc_W (gc_S d) cX11_comesFor 11 0 R 14 L (v.toList ++ []) μ') := us_stat dX11_comesFor_11 gs_11_84 gne_11_84 gn_11_84 gc_11_84_97 rfl rfl rfl rfl
theorem u103_14 {d : Nat} {R : gR} {μ : gM} {L : List Value} {st : List Value} {x : Int32}  : gc_W (gc_S d) cX11_comesFor 11 0 R 14 L (.int x :: st) μ ↔ if x = 0 then gc_W (gc_S d) cX11_comesFor 11 0 R 17 L st μ else gc_W (gc_S d) cX11_comesFor 11 0 R 23 L st μ := us_ifne dX11_comesFor_14 rfl
theorem u103_17 {d : Nat} {R : gR} {μ : gM} {l1 l2 : Value} {st : List Value} {x : Nat}  : gc_W (gc_S d) cX11_comesFor 11 0 R 17 [.ref x, l1, l2] st μ ↔ gc_W (gc_S d) cX11_comesFor 11 0 R 18 [.ref x, l1, l2] (.ref x :: st) μ := us_aload_n dX11_comesFor_17 rfl
theorem u103_18 {d : Nat} {R : gR} {μ : gM} {L : List Value} {st : List Value}   : gc_W (gc_S d) cX11_comesFor 11 0 R 18 L st μ ↔ gc_W (gc_S d) cX11_comesFor 11 0 R 19 L (.int 1 :: st) μ := us_iconst dX11_comesFor_18 ci_iconst_1
theorem u103_19 {d : Nat} {R : gR} {μ : gM} {L : List Value} {o : Nat} {a0 : Int32} (hk : gc_kd o = 11) : gc_W (gc_S d) cX11_comesFor 11 0 R 19 L [.int a0, .ref o] μ ↔ gc_S d 75 [.ref o, .int a0] μ (fun v μ' => gc_W (gc_S d) cX11_comesFor 11 0 R 22 L (v.toList ++ []) μ') := us_virt dX11_comesFor_19 gn_11_88 gc_11_88_11 hk rfl rfl rfl rfl rfl
theorem u103_22 {d : Nat} {R : gR} {μ : gM} {L : List Value} {v : Int32}  : gc_W (gc_S d) cX11_comesFor 11 0 R 22 L [.int v] μ ↔ R (some (.int v)) μ := us_iret dX11_comesFor_22 rfl
theorem u103_23 {d : Nat} {R : gR} {μ : gM} {l1 l2 : Value} {st : List Value} {x : Nat}  : gc_W (gc_S d) cX11_comesFor 11 0 R 23 [.ref x, l1, l2] st μ ↔ gc_W (gc_S d) cX11_comesFor 11 0 R 24 [.ref x, l1, l2] (.ref x :: st) μ := us_aload_n dX11_comesFor_23 rfl
theorem u103_24 {d : Nat} {R : gR} {μ : gM} {L : List Value} {st : List Value}   : gc_W (gc_S d) cX11_comesFor 11 0 R 24 L st μ ↔ gc_W (gc_S d) cX11_comesFor 11 0 R 25 L (.int 1 :: st) μ := us_iconst dX11_comesFor_24 ci_iconst_1
theorem u103_25 {d : Nat} {R : gR} {μ : gM} {l0 l2 : Value} {st : List Value} {x : Int32}  : gc_W (gc_S d) cX11_comesFor 11 0 R 25 [l0, .int x, l2] st μ ↔ gc_W (gc_S d) cX11_comesFor 11 0 R 26 [l0, .int x, l2] (.int x :: st) μ := us_iload_n dX11_comesFor_25 rfl
theorem u103_26 {d : Nat} {R : gR} {μ : gM} {L : List Value} {st : List Value}   : gc_W (gc_S d) cX11_comesFor 11 0 R 26 L st μ ↔ gc_W (gc_S d) cX11_comesFor 11 0 R 28 L (.int 8 :: st) μ := us_bipush dX11_comesFor_26 ci_bipush_8
theorem u103_28 {d : Nat} {R : gR} {μ : gM} {l0 l1 : Value} {st : List Value} {x : Int32}  : gc_W (gc_S d) cX11_comesFor 11 0 R 28 [l0, l1, .int x] st μ ↔ gc_W (gc_S d) cX11_comesFor 11 0 R 29 [l0, l1, .int x] (.int x :: st) μ := us_iload_n dX11_comesFor_28 rfl
theorem u103_29 {d : Nat} {R : gR} {μ : gM} {L : List Value} {o : Nat} {a0 a1 a2 a3 : Int32} (hk : gc_kd o = 11) : gc_W (gc_S d) cX11_comesFor 11 0 R 29 L [.int a3, .int a2, .int a1, .int a0, .ref o] μ ↔ gc_S d 101 [.ref o, .int a0, .int a1, .int a2, .int a3] μ (fun v μ' => gc_W (gc_S d) cX11_comesFor 11 0 R 32 L (v.toList ++ []) μ') := us_virt dX11_comesFor_29 gn_11_211 gc_11_211_11 hk rfl rfl rfl rfl rfl
theorem u103_32 {d : Nat} {R : gR} {μ : gM} {L : List Value} {v : Int32}  : gc_W (gc_S d) cX11_comesFor 11 0 R 32 L [.int v] μ ↔ R (some (.int v)) μ := us_iret dX11_comesFor_32 rfl
theorem s103 {d : Nat} {R : gR} {μ : gM} {o : Nat} {a0 a1 : Int32} : gc_S (d + 1) 103 [.ref o, .int a0, .int a1] μ R ↔ gc_W (gc_S d) cX11_comesFor 11 0 R 0 [.ref o, .int a0, .int a1] [] μ := us_call (gm_103) rfl rfl
theorem dX11_kindFor_0 : decode cX11_kindFor 0 = .ok (.aload_n 0, 1) := by decide +kernel
theorem dX11_kindFor_1 : decode cX11_kindFor 1 = .ok (.iload_n 1, 1) := by decide +kernel
theorem dX11_kindFor_2 : decode cX11_kindFor 2 = .ok (.invokevirtual 135, 3) := by decide +kernel
theorem dX11_kindFor_5 : decode cX11_kindFor 5 = .ok (.ifCond .eq 12, 3) := by decide +kernel
theorem dX11_kindFor_8 : decode cX11_kindFor 8 = .ok (.bipush 60, 2) := by decide +kernel
theorem dX11_kindFor_10 : decode cX11_kindFor 10 = .ok (.iload_n 2, 1) := by decide +kernel
theorem dX11_kindFor_11 : decode cX11_kindFor 11 = .ok (.invokestatic 84, 3) := by decide +kernel
theorem dX11_kindFor_14 : decode cX11_kindFor 14 = .ok (.ifCond .ne 9, 3) := by decide +kernel
theorem dX11_kindFor_17 : decode cX11_kindFor 17 = .ok (.aload_n 0, 1) := by decide +kernel
theorem dX11_kindFor_18 : decode cX11_kindFor 18 = .ok (.iconst 1, 1) := by decide +kernel
theorem dX11_kindFor_19 : decode cX11_kindFor 19 = .ok (.invokevirtual 88, 3) := by decide +kernel
theorem dX11_kindFor_22 : decode cX11_kindFor 22 = .ok (.ireturn, 1) := by decide +kernel
theorem dX11_kindFor_23 : decode cX11_kindFor 23 = .ok (.aload_n 0, 1) := by decide +kernel
theorem dX11_kindFor_24 : decode cX11_kindFor 24 = .ok (.iconst 2, 1) := by decide +kernel
theorem dX11_kindFor_25 : decode cX11_kindFor 25 = .ok (.iload_n 1, 1) := by decide +kernel
theorem dX11_kindFor_26 : decode cX11_kindFor 26 = .ok (.bipush 7, 2) := by decide +kernel
theorem dX11_kindFor_28 : decode cX11_kindFor 28 = .ok (.iload_n 2, 1) := by decide +kernel
theorem dX11_kindFor_29 : decode cX11_kindFor 29 = .ok (.invokevirtual 211, 3) := by decide +kernel
theorem dX11_kindFor_32 : decode cX11_kindFor 32 = .ok (.ireturn, 1) := by decide +kernel
theorem u104_0 {d : Nat} {R : gR} {μ : gM} {l1 l2 : Value} {st : List Value} {x : Nat}  : gc_W (gc_S d) cX11_kindFor 11 0 R 0 [.ref x, l1, l2] st μ ↔ gc_W (gc_S d) cX11_kindFor 11 0 R 1 [.ref x, l1, l2] (.ref x :: st) μ := us_aload_n dX11_kindFor_0 rfl
theorem u104_1 {d : Nat} {R : gR} {μ : gM} {l0 l2 : Value} {st : List Value} {x : Int32}  : gc_W (gc_S d) cX11_kindFor 11 0 R 1 [l0, .int x, l2] st μ ↔ gc_W (gc_S d) cX11_kindFor 11 0 R 2 [l0, .int x, l2] (.int x :: st) μ := us_iload_n dX11_kindFor_1 rfl
theorem u104_2 {d : Nat} {R : gR} {μ : gM} {L : List Value} {o : Nat} {a0 : Int32} (hk : gc_kd o = 11) : gc_W (gc_S d) cX11_kindFor 11 0 R 2 L [.int a0, .ref o] μ ↔ gc_S d 82 [.ref o, .int a0] μ (fun v μ' => gc_W (gc_S d) cX11_kindFor 11 0 R 5 L (v.toList ++ []) μ') := us_virt dX11_kindFor_2 gn_11_135 gc_11_135_11 hk rfl rfl rfl rfl rfl
theorem u104_5 {d : Nat} {R : gR} {μ : gM} {L : List Value} {st : List Value} {x : Int32}  : gc_W (gc_S d) cX11_kindFor 11 0 R 5 L (.int x :: st) μ ↔ if x = 0 then gc_W (gc_S d) cX11_kindFor 11 0 R 17 L st μ else gc_W (gc_S d) cX11_kindFor 11 0 R 8 L st μ := us_ifeq dX11_kindFor_5 rfl
theorem u104_8 {d : Nat} {R : gR} {μ : gM} {L : List Value} {st : List Value}   : gc_W (gc_S d) cX11_kindFor 11 0 R 8 L st μ ↔ gc_W (gc_S d) cX11_kindFor 11 0 R 10 L (.int 60 :: st) μ := us_bipush dX11_kindFor_8 ci_bipush_60
theorem u104_10 {d : Nat} {R : gR} {μ : gM} {l0 l1 : Value} {st : List Value} {x : Int32}  : gc_W (gc_S d) cX11_kindFor 11 0 R 10 [l0, l1, .int x] st μ ↔ gc_W (gc_S d) cX11_kindFor 11 0 R 11 [l0, l1, .int x] (.int x :: st) μ := us_iload_n dX11_kindFor_10 rfl
theorem u104_11 {d : Nat} {R : gR} {μ : gM} {L : List Value}  {a0 a1 : Int32}  : gc_W (gc_S d) cX11_kindFor 11 0 R 11 L [.int a1, .int a0] μ ↔ gc_S d 73 [.int a0, .int a1] μ (fun v μ' => gc_W (gc_S d) cX11_kindFor 11 0 R 14 L (v.toList ++ []) μ') := us_stat dX11_kindFor_11 gs_11_84 gne_11_84 gn_11_84 gc_11_84_97 rfl rfl rfl rfl
theorem u104_14 {d : Nat} {R : gR} {μ : gM} {L : List Value} {st : List Value} {x : Int32}  : gc_W (gc_S d) cX11_kindFor 11 0 R 14 L (.int x :: st) μ ↔ if x = 0 then gc_W (gc_S d) cX11_kindFor 11 0 R 17 L st μ else gc_W (gc_S d) cX11_kindFor 11 0 R 23 L st μ := us_ifne dX11_kindFor_14 rfl
theorem u104_17 {d : Nat} {R : gR} {μ : gM} {l1 l2 : Value} {st : List Value} {x : Nat}  : gc_W (gc_S d) cX11_kindFor 11 0 R 17 [.ref x, l1, l2] st μ ↔ gc_W (gc_S d) cX11_kindFor 11 0 R 18 [.ref x, l1, l2] (.ref x :: st) μ := us_aload_n dX11_kindFor_17 rfl
theorem u104_18 {d : Nat} {R : gR} {μ : gM} {L : List Value} {st : List Value}   : gc_W (gc_S d) cX11_kindFor 11 0 R 18 L st μ ↔ gc_W (gc_S d) cX11_kindFor 11 0 R 19 L (.int 1 :: st) μ := us_iconst dX11_kindFor_18 ci_iconst_1
theorem u104_19 {d : Nat} {R : gR} {μ : gM} {L : List Value} {o : Nat} {a0 : Int32} (hk : gc_kd o = 11) : gc_W (gc_S d) cX11_kindFor 11 0 R 19 L [.int a0, .ref o] μ ↔ gc_S d 75 [.ref o, .int a0] μ (fun v μ' => gc_W (gc_S d) cX11_kindFor 11 0 R 22 L (v.toList ++ []) μ') := us_virt dX11_kindFor_19 gn_11_88 gc_11_88_11 hk rfl rfl rfl rfl rfl
theorem u104_22 {d : Nat} {R : gR} {μ : gM} {L : List Value} {v : Int32}  : gc_W (gc_S d) cX11_kindFor 11 0 R 22 L [.int v] μ ↔ R (some (.int v)) μ := us_iret dX11_kindFor_22 rfl
theorem u104_23 {d : Nat} {R : gR} {μ : gM} {l1 l2 : Value} {st : List Value} {x : Nat}  : gc_W (gc_S d) cX11_kindFor 11 0 R 23 [.ref x, l1, l2] st μ ↔ gc_W (gc_S d) cX11_kindFor 11 0 R 24 [.ref x, l1, l2] (.ref x :: st) μ := us_aload_n dX11_kindFor_23 rfl
theorem u104_24 {d : Nat} {R : gR} {μ : gM} {L : List Value} {st : List Value}   : gc_W (gc_S d) cX11_kindFor 11 0 R 24 L st μ ↔ gc_W (gc_S d) cX11_kindFor 11 0 R 25 L (.int 2 :: st) μ := us_iconst dX11_kindFor_24 ci_iconst_2
theorem u104_25 {d : Nat} {R : gR} {μ : gM} {l0 l2 : Value} {st : List Value} {x : Int32}  : gc_W (gc_S d) cX11_kindFor 11 0 R 25 [l0, .int x, l2] st μ ↔ gc_W (gc_S d) cX11_kindFor 11 0 R 26 [l0, .int x, l2] (.int x :: st) μ := us_iload_n dX11_kindFor_25 rfl
theorem u104_26 {d : Nat} {R : gR} {μ : gM} {L : List Value} {st : List Value}   : gc_W (gc_S d) cX11_kindFor 11 0 R 26 L st μ ↔ gc_W (gc_S d) cX11_kindFor 11 0 R 28 L (.int 7 :: st) μ := us_bipush dX11_kindFor_26 ci_bipush_7
theorem u104_28 {d : Nat} {R : gR} {μ : gM} {l0 l1 : Value} {st : List Value} {x : Int32}  : gc_W (gc_S d) cX11_kindFor 11 0 R 28 [l0, l1, .int x] st μ ↔ gc_W (gc_S d) cX11_kindFor 11 0 R 29 [l0, l1, .int x] (.int x :: st) μ := us_iload_n dX11_kindFor_28 rfl
theorem u104_29 {d : Nat} {R : gR} {μ : gM} {L : List Value} {o : Nat} {a0 a1 a2 a3 : Int32} (hk : gc_kd o = 11) : gc_W (gc_S d) cX11_kindFor 11 0 R 29 L [.int a3, .int a2, .int a1, .int a0, .ref o] μ ↔ gc_S d 101 [.ref o, .int a0, .int a1, .int a2, .int a3] μ (fun v μ' => gc_W (gc_S d) cX11_kindFor 11 0 R 32 L (v.toList ++ []) μ') := us_virt dX11_kindFor_29 gn_11_211 gc_11_211_11 hk rfl rfl rfl rfl rfl
theorem u104_32 {d : Nat} {R : gR} {μ : gM} {L : List Value} {v : Int32}  : gc_W (gc_S d) cX11_kindFor 11 0 R 32 L [.int v] μ ↔ R (some (.int v)) μ := us_iret dX11_kindFor_32 rfl
theorem s104 {d : Nat} {R : gR} {μ : gM} {o : Nat} {a0 a1 : Int32} : gc_S (d + 1) 104 [.ref o, .int a0, .int a1] μ R ↔ gc_W (gc_S d) cX11_kindFor 11 0 R 0 [.ref o, .int a0, .int a1] [] μ := us_call (gm_104) rfl rfl
theorem dX11_firstUnit_0 : decode cX11_firstUnit 0 = .ok (.iconst 1, 1) := by decide +kernel
theorem dX11_firstUnit_1 : decode cX11_firstUnit 1 = .ok (.istore_n 1, 1) := by decide +kernel
theorem dX11_firstUnit_2 : decode cX11_firstUnit 2 = .ok (.iload_n 1, 1) := by decide +kernel
theorem dX11_firstUnit_3 : decode cX11_firstUnit 3 = .ok (.sipush 10000, 3) := by decide +kernel
theorem dX11_firstUnit_6 : decode cX11_firstUnit 6 = .ok (.if_icmp .gt 25, 3) := by decide +kernel
theorem dX11_firstUnit_9 : decode cX11_firstUnit 9 = .ok (.iload_n 0, 1) := by decide +kernel
theorem dX11_firstUnit_10 : decode cX11_firstUnit 10 = .ok (.iload_n 1, 1) := by decide +kernel
theorem dX11_firstUnit_11 : decode cX11_firstUnit 11 = .ok (.if_icmp .lt 12, 3) := by decide +kernel
theorem dX11_firstUnit_14 : decode cX11_firstUnit 14 = .ok (.iload_n 0, 1) := by decide +kernel
theorem dX11_firstUnit_15 : decode cX11_firstUnit 15 = .ok (.iconst 2, 1) := by decide +kernel
theorem dX11_firstUnit_16 : decode cX11_firstUnit 16 = .ok (.iload_n 1, 1) := by decide +kernel
theorem dX11_firstUnit_17 : decode cX11_firstUnit 17 = .ok (.imul, 1) := by decide +kernel
theorem dX11_firstUnit_18 : decode cX11_firstUnit 18 = .ok (.if_icmp .ge 5, 3) := by decide +kernel
theorem dX11_firstUnit_21 : decode cX11_firstUnit 21 = .ok (.iload_n 1, 1) := by decide +kernel
theorem dX11_firstUnit_22 : decode cX11_firstUnit 22 = .ok (.ireturn, 1) := by decide +kernel
theorem dX11_firstUnit_23 : decode cX11_firstUnit 23 = .ok (.iload_n 1, 1) := by decide +kernel
theorem dX11_firstUnit_24 : decode cX11_firstUnit 24 = .ok (.bipush 10, 2) := by decide +kernel
theorem dX11_firstUnit_26 : decode cX11_firstUnit 26 = .ok (.imul, 1) := by decide +kernel
theorem dX11_firstUnit_27 : decode cX11_firstUnit 27 = .ok (.istore_n 1, 1) := by decide +kernel
theorem dX11_firstUnit_28 : decode cX11_firstUnit 28 = .ok (.goto (-26), 3) := by decide +kernel
theorem dX11_firstUnit_31 : decode cX11_firstUnit 31 = .ok (.iconst 0, 1) := by decide +kernel
theorem dX11_firstUnit_32 : decode cX11_firstUnit 32 = .ok (.ireturn, 1) := by decide +kernel
theorem u105_0 {d : Nat} {R : gR} {μ : gM} {L : List Value} {st : List Value}   : gc_W (gc_S d) cX11_firstUnit 11 0 R 0 L st μ ↔ gc_W (gc_S d) cX11_firstUnit 11 0 R 1 L (.int 1 :: st) μ := us_iconst dX11_firstUnit_0 ci_iconst_1
theorem u105_1 {d : Nat} {R : gR} {μ : gM} {l0 l1 : Value} {st : List Value} {x : Int32} (hs : gc_sk l1 = true) : gc_W (gc_S d) cX11_firstUnit 11 0 R 1 [l0, l1] (.int x :: st) μ ↔ gc_W (gc_S d) cX11_firstUnit 11 0 R 2 [l0, .int x] st μ := us_istore_n dX11_firstUnit_1 rfl hs
theorem u105_2 {d : Nat} {R : gR} {μ : gM} {l0 : Value} {st : List Value} {x : Int32}  : gc_W (gc_S d) cX11_firstUnit 11 0 R 2 [l0, .int x] st μ ↔ gc_W (gc_S d) cX11_firstUnit 11 0 R 3 [l0, .int x] (.int x :: st) μ := us_iload_n dX11_firstUnit_2 rfl
theorem u105_3 {d : Nat} {R : gR} {μ : gM} {L : List Value} {st : List Value}   : gc_W (gc_S d) cX11_firstUnit 11 0 R 3 L st μ ↔ gc_W (gc_S d) cX11_firstUnit 11 0 R 6 L (.int 10000 :: st) μ := us_sipush dX11_firstUnit_3 ci_sipush_10000
theorem u105_6 {d : Nat} {R : gR} {μ : gM} {L : List Value} {st : List Value} {x y : Int32}  : gc_W (gc_S d) cX11_firstUnit 11 0 R 6 L (.int y :: .int x :: st) μ ↔ if y < x then gc_W (gc_S d) cX11_firstUnit 11 0 R 31 L st μ else gc_W (gc_S d) cX11_firstUnit 11 0 R 9 L st μ := us_icgt dX11_firstUnit_6 rfl
theorem u105_9 {d : Nat} {R : gR} {μ : gM} {l1 : Value} {st : List Value} {x : Int32}  : gc_W (gc_S d) cX11_firstUnit 11 0 R 9 [.int x, l1] st μ ↔ gc_W (gc_S d) cX11_firstUnit 11 0 R 10 [.int x, l1] (.int x :: st) μ := us_iload_n dX11_firstUnit_9 rfl
theorem u105_10 {d : Nat} {R : gR} {μ : gM} {l0 : Value} {st : List Value} {x : Int32}  : gc_W (gc_S d) cX11_firstUnit 11 0 R 10 [l0, .int x] st μ ↔ gc_W (gc_S d) cX11_firstUnit 11 0 R 11 [l0, .int x] (.int x :: st) μ := us_iload_n dX11_firstUnit_10 rfl
theorem u105_11 {d : Nat} {R : gR} {μ : gM} {L : List Value} {st : List Value} {x y : Int32}  : gc_W (gc_S d) cX11_firstUnit 11 0 R 11 L (.int y :: .int x :: st) μ ↔ if x < y then gc_W (gc_S d) cX11_firstUnit 11 0 R 23 L st μ else gc_W (gc_S d) cX11_firstUnit 11 0 R 14 L st μ := us_iclt dX11_firstUnit_11 rfl
theorem u105_14 {d : Nat} {R : gR} {μ : gM} {l1 : Value} {st : List Value} {x : Int32}  : gc_W (gc_S d) cX11_firstUnit 11 0 R 14 [.int x, l1] st μ ↔ gc_W (gc_S d) cX11_firstUnit 11 0 R 15 [.int x, l1] (.int x :: st) μ := us_iload_n dX11_firstUnit_14 rfl
theorem u105_15 {d : Nat} {R : gR} {μ : gM} {L : List Value} {st : List Value}   : gc_W (gc_S d) cX11_firstUnit 11 0 R 15 L st μ ↔ gc_W (gc_S d) cX11_firstUnit 11 0 R 16 L (.int 2 :: st) μ := us_iconst dX11_firstUnit_15 ci_iconst_2
theorem u105_16 {d : Nat} {R : gR} {μ : gM} {l0 : Value} {st : List Value} {x : Int32}  : gc_W (gc_S d) cX11_firstUnit 11 0 R 16 [l0, .int x] st μ ↔ gc_W (gc_S d) cX11_firstUnit 11 0 R 17 [l0, .int x] (.int x :: st) μ := us_iload_n dX11_firstUnit_16 rfl
theorem u105_17 {d : Nat} {R : gR} {μ : gM} {L : List Value} {st : List Value} {x y : Int32}  : gc_W (gc_S d) cX11_firstUnit 11 0 R 17 L (.int y :: .int x :: st) μ ↔ gc_W (gc_S d) cX11_firstUnit 11 0 R 18 L (.int (x * y) :: st) μ := us_imul dX11_firstUnit_17
theorem u105_18 {d : Nat} {R : gR} {μ : gM} {L : List Value} {st : List Value} {x y : Int32}  : gc_W (gc_S d) cX11_firstUnit 11 0 R 18 L (.int y :: .int x :: st) μ ↔ if y ≤ x then gc_W (gc_S d) cX11_firstUnit 11 0 R 23 L st μ else gc_W (gc_S d) cX11_firstUnit 11 0 R 21 L st μ := us_icge dX11_firstUnit_18 rfl
theorem u105_21 {d : Nat} {R : gR} {μ : gM} {l0 : Value} {st : List Value} {x : Int32}  : gc_W (gc_S d) cX11_firstUnit 11 0 R 21 [l0, .int x] st μ ↔ gc_W (gc_S d) cX11_firstUnit 11 0 R 22 [l0, .int x] (.int x :: st) μ := us_iload_n dX11_firstUnit_21 rfl
theorem u105_22 {d : Nat} {R : gR} {μ : gM} {L : List Value} {v : Int32}  : gc_W (gc_S d) cX11_firstUnit 11 0 R 22 L [.int v] μ ↔ R (some (.int v)) μ := us_iret dX11_firstUnit_22 rfl
theorem u105_23 {d : Nat} {R : gR} {μ : gM} {l0 : Value} {st : List Value} {x : Int32}  : gc_W (gc_S d) cX11_firstUnit 11 0 R 23 [l0, .int x] st μ ↔ gc_W (gc_S d) cX11_firstUnit 11 0 R 24 [l0, .int x] (.int x :: st) μ := us_iload_n dX11_firstUnit_23 rfl
theorem u105_24 {d : Nat} {R : gR} {μ : gM} {L : List Value} {st : List Value}   : gc_W (gc_S d) cX11_firstUnit 11 0 R 24 L st μ ↔ gc_W (gc_S d) cX11_firstUnit 11 0 R 26 L (.int 10 :: st) μ := us_bipush dX11_firstUnit_24 ci_bipush_10
theorem u105_26 {d : Nat} {R : gR} {μ : gM} {L : List Value} {st : List Value} {x y : Int32}  : gc_W (gc_S d) cX11_firstUnit 11 0 R 26 L (.int y :: .int x :: st) μ ↔ gc_W (gc_S d) cX11_firstUnit 11 0 R 27 L (.int (x * y) :: st) μ := us_imul dX11_firstUnit_26
theorem u105_27 {d : Nat} {R : gR} {μ : gM} {l0 l1 : Value} {st : List Value} {x : Int32} (hs : gc_sk l1 = true) : gc_W (gc_S d) cX11_firstUnit 11 0 R 27 [l0, l1] (.int x :: st) μ ↔ gc_W (gc_S d) cX11_firstUnit 11 0 R 28 [l0, .int x] st μ := us_istore_n dX11_firstUnit_27 rfl hs
theorem u105_28 {d : Nat} {R : gR} {μ : gM} {L : List Value} {st : List Value}  : gc_W (gc_S d) cX11_firstUnit 11 0 R 28 L st μ ↔ gc_W (gc_S d) cX11_firstUnit 11 0 R 2 L st μ := us_goto dX11_firstUnit_28 rfl
theorem u105_31 {d : Nat} {R : gR} {μ : gM} {L : List Value} {st : List Value}   : gc_W (gc_S d) cX11_firstUnit 11 0 R 31 L st μ ↔ gc_W (gc_S d) cX11_firstUnit 11 0 R 32 L (.int 0 :: st) μ := us_iconst dX11_firstUnit_31 ci_iconst_0
theorem u105_32 {d : Nat} {R : gR} {μ : gM} {L : List Value} {v : Int32}  : gc_W (gc_S d) cX11_firstUnit 11 0 R 32 L [.int v] μ ↔ R (some (.int v)) μ := us_iret dX11_firstUnit_32 rfl
theorem s105 {d : Nat} {R : gR} {μ : gM} {a0 : Int32} : gc_S (d + 1) 105 [.int a0] μ R ↔ gc_W (gc_S d) cX11_firstUnit 11 0 R 0 [.int a0, .retAddr 0] [] μ := us_call (gm_105) rfl rfl
theorem dX11_pileAndLayer_0 : decode cX11_pileAndLayer 0 = .ok (.iload_n 0, 1) := by decide +kernel
theorem dX11_pileAndLayer_1 : decode cX11_pileAndLayer 1 = .ok (.invokestatic 321, 3) := by decide +kernel
theorem dX11_pileAndLayer_4 : decode cX11_pileAndLayer 4 = .ok (.istore_n 2, 1) := by decide +kernel
theorem dX11_pileAndLayer_5 : decode cX11_pileAndLayer 5 = .ok (.iconst 4, 1) := by decide +kernel
theorem dX11_pileAndLayer_6 : decode cX11_pileAndLayer 6 = .ok (.istore_n 3, 1) := by decide +kernel
theorem dX11_pileAndLayer_7 : decode cX11_pileAndLayer 7 = .ok (.iconst 4, 1) := by decide +kernel
theorem dX11_pileAndLayer_8 : decode cX11_pileAndLayer 8 = .ok (.istore 4, 2) := by decide +kernel
theorem dX11_pileAndLayer_10 : decode cX11_pileAndLayer 10 = .ok (.iload_n 1, 1) := by decide +kernel
theorem dX11_pileAndLayer_11 : decode cX11_pileAndLayer 11 = .ok (.iconst 4, 1) := by decide +kernel
theorem dX11_pileAndLayer_12 : decode cX11_pileAndLayer 12 = .ok (.irem, 1) := by decide +kernel
theorem dX11_pileAndLayer_13 : decode cX11_pileAndLayer 13 = .ok (.istore 5, 2) := by decide +kernel
theorem dX11_pileAndLayer_15 : decode cX11_pileAndLayer 15 = .ok (.iload_n 1, 1) := by decide +kernel
theorem dX11_pileAndLayer_16 : decode cX11_pileAndLayer 16 = .ok (.iconst 4, 1) := by decide +kernel
theorem dX11_pileAndLayer_17 : decode cX11_pileAndLayer 17 = .ok (.idiv, 1) := by decide +kernel
theorem dX11_pileAndLayer_18 : decode cX11_pileAndLayer 18 = .ok (.istore 6, 2) := by decide +kernel
theorem dX11_pileAndLayer_20 : decode cX11_pileAndLayer 20 = .ok (.iconst 0, 1) := by decide +kernel
theorem dX11_pileAndLayer_21 : decode cX11_pileAndLayer 21 = .ok (.istore 7, 2) := by decide +kernel
theorem dX11_pileAndLayer_23 : decode cX11_pileAndLayer 23 = .ok (.iconst 1, 1) := by decide +kernel
theorem dX11_pileAndLayer_24 : decode cX11_pileAndLayer 24 = .ok (.istore 8, 2) := by decide +kernel
theorem dX11_pileAndLayer_26 : decode cX11_pileAndLayer 26 = .ok (.iload_n 2, 1) := by decide +kernel
theorem dX11_pileAndLayer_27 : decode cX11_pileAndLayer 27 = .ok (.bipush 10, 2) := by decide +kernel
theorem dX11_pileAndLayer_29 : decode cX11_pileAndLayer 29 = .ok (.idiv, 1) := by decide +kernel
theorem dX11_pileAndLayer_30 : decode cX11_pileAndLayer 30 = .ok (.istore 9, 2) := by decide +kernel
theorem dX11_pileAndLayer_32 : decode cX11_pileAndLayer 32 = .ok (.iload 9, 2) := by decide +kernel
theorem dX11_pileAndLayer_34 : decode cX11_pileAndLayer 34 = .ok (.ifCond .le 213, 3) := by decide +kernel
theorem dX11_pileAndLayer_37 : decode cX11_pileAndLayer 37 = .ok (.iload_n 0, 1) := by decide +kernel
theorem dX11_pileAndLayer_38 : decode cX11_pileAndLayer 38 = .ok (.iload 9, 2) := by decide +kernel
theorem dX11_pileAndLayer_40 : decode cX11_pileAndLayer 40 = .ok (.idiv, 1) := by decide +kernel
theorem dX11_pileAndLayer_41 : decode cX11_pileAndLayer 41 = .ok (.bipush 10, 2) := by decide +kernel
theorem dX11_pileAndLayer_43 : decode cX11_pileAndLayer 43 = .ok (.irem, 1) := by decide +kernel
theorem dX11_pileAndLayer_44 : decode cX11_pileAndLayer 44 = .ok (.istore 10, 2) := by decide +kernel
theorem dX11_pileAndLayer_46 : decode cX11_pileAndLayer 46 = .ok (.iload 10, 2) := by decide +kernel
theorem dX11_pileAndLayer_48 : decode cX11_pileAndLayer 48 = .ok (.iconst 2, 1) := by decide +kernel
theorem dX11_pileAndLayer_49 : decode cX11_pileAndLayer 49 = .ok (.if_icmp .gt 7, 3) := by decide +kernel
theorem dX11_pileAndLayer_52 : decode cX11_pileAndLayer 52 = .ok (.iconst 1, 1) := by decide +kernel
theorem dX11_pileAndLayer_53 : decode cX11_pileAndLayer 53 = .ok (.goto 4, 3) := by decide +kernel
theorem dX11_pileAndLayer_56 : decode cX11_pileAndLayer 56 = .ok (.iconst 0, 1) := by decide +kernel
theorem dX11_pileAndLayer_57 : decode cX11_pileAndLayer 57 = .ok (.istore 11, 2) := by decide +kernel
theorem dX11_pileAndLayer_59 : decode cX11_pileAndLayer 59 = .ok (.iload 11, 2) := by decide +kernel
theorem dX11_pileAndLayer_61 : decode cX11_pileAndLayer 61 = .ok (.ifCond .eq 7, 3) := by decide +kernel
theorem dX11_pileAndLayer_64 : decode cX11_pileAndLayer 64 = .ok (.iload_n 3, 1) := by decide +kernel
theorem dX11_pileAndLayer_65 : decode cX11_pileAndLayer 65 = .ok (.goto 5, 3) := by decide +kernel
theorem dX11_pileAndLayer_68 : decode cX11_pileAndLayer 68 = .ok (.iload 4, 2) := by decide +kernel
theorem dX11_pileAndLayer_70 : decode cX11_pileAndLayer 70 = .ok (.iconst 2, 1) := by decide +kernel
theorem dX11_pileAndLayer_71 : decode cX11_pileAndLayer 71 = .ok (.idiv, 1) := by decide +kernel
theorem dX11_pileAndLayer_72 : decode cX11_pileAndLayer 72 = .ok (.istore 12, 2) := by decide +kernel
theorem dX11_pileAndLayer_74 : decode cX11_pileAndLayer 74 = .ok (.iload 10, 2) := by decide +kernel
theorem dX11_pileAndLayer_76 : decode cX11_pileAndLayer 76 = .ok (.iconst 1, 1) := by decide +kernel
theorem dX11_pileAndLayer_77 : decode cX11_pileAndLayer 77 = .ok (.if_icmp .lt 14, 3) := by decide +kernel
theorem dX11_pileAndLayer_80 : decode cX11_pileAndLayer 80 = .ok (.iload 10, 2) := by decide +kernel
theorem dX11_pileAndLayer_82 : decode cX11_pileAndLayer 82 = .ok (.iconst 4, 1) := by decide +kernel
theorem dX11_pileAndLayer_83 : decode cX11_pileAndLayer 83 = .ok (.if_icmp .gt 8, 3) := by decide +kernel
theorem dX11_pileAndLayer_86 : decode cX11_pileAndLayer 86 = .ok (.iload 12, 2) := by decide +kernel
theorem dX11_pileAndLayer_88 : decode cX11_pileAndLayer 88 = .ok (.ifCond .ne 5, 3) := by decide +kernel
theorem dX11_pileAndLayer_91 : decode cX11_pileAndLayer 91 = .ok (.iconst (-1), 1) := by decide +kernel
theorem dX11_pileAndLayer_92 : decode cX11_pileAndLayer 92 = .ok (.ireturn, 1) := by decide +kernel
theorem dX11_pileAndLayer_93 : decode cX11_pileAndLayer 93 = .ok (.iload 11, 2) := by decide +kernel
theorem dX11_pileAndLayer_95 : decode cX11_pileAndLayer 95 = .ok (.ifCond .eq 8, 3) := by decide +kernel
theorem dX11_pileAndLayer_98 : decode cX11_pileAndLayer 98 = .ok (.iload 5, 2) := by decide +kernel
theorem dX11_pileAndLayer_100 : decode cX11_pileAndLayer 100 = .ok (.goto 5, 3) := by decide +kernel
theorem dX11_pileAndLayer_103 : decode cX11_pileAndLayer 103 = .ok (.iload 6, 2) := by decide +kernel
theorem dX11_pileAndLayer_105 : decode cX11_pileAndLayer 105 = .ok (.istore 13, 2) := by decide +kernel
theorem dX11_pileAndLayer_107 : decode cX11_pileAndLayer 107 = .ok (.iload 10, 2) := by decide +kernel
theorem dX11_pileAndLayer_109 : decode cX11_pileAndLayer 109 = .ok (.iconst 2, 1) := by decide +kernel
theorem dX11_pileAndLayer_110 : decode cX11_pileAndLayer 110 = .ok (.irem, 1) := by decide +kernel
theorem dX11_pileAndLayer_111 : decode cX11_pileAndLayer 111 = .ok (.iconst 1, 1) := by decide +kernel
theorem dX11_pileAndLayer_112 : decode cX11_pileAndLayer 112 = .ok (.if_icmp .ne 7, 3) := by decide +kernel
theorem dX11_pileAndLayer_115 : decode cX11_pileAndLayer 115 = .ok (.iconst 1, 1) := by decide +kernel
theorem dX11_pileAndLayer_116 : decode cX11_pileAndLayer 116 = .ok (.goto 4, 3) := by decide +kernel
theorem dX11_pileAndLayer_119 : decode cX11_pileAndLayer 119 = .ok (.iconst 0, 1) := by decide +kernel
theorem dX11_pileAndLayer_120 : decode cX11_pileAndLayer 120 = .ok (.istore 14, 2) := by decide +kernel
theorem dX11_pileAndLayer_122 : decode cX11_pileAndLayer 122 = .ok (.iload 14, 2) := by decide +kernel
theorem dX11_pileAndLayer_124 : decode cX11_pileAndLayer 124 = .ok (.iload 13, 2) := by decide +kernel
theorem dX11_pileAndLayer_126 : decode cX11_pileAndLayer 126 = .ok (.iload 12, 2) := by decide +kernel
theorem dX11_pileAndLayer_128 : decode cX11_pileAndLayer 128 = .ok (.if_icmp .ge 7, 3) := by decide +kernel
theorem dX11_pileAndLayer_131 : decode cX11_pileAndLayer 131 = .ok (.iconst 1, 1) := by decide +kernel
theorem dX11_pileAndLayer_132 : decode cX11_pileAndLayer 132 = .ok (.goto 4, 3) := by decide +kernel
theorem dX11_pileAndLayer_135 : decode cX11_pileAndLayer 135 = .ok (.iconst 0, 1) := by decide +kernel
theorem dX11_pileAndLayer_136 : decode cX11_pileAndLayer 136 = .ok (.if_icmp .ne 25, 3) := by decide +kernel
theorem dX11_pileAndLayer_139 : decode cX11_pileAndLayer 139 = .ok (.iconst 2, 1) := by decide +kernel
theorem dX11_pileAndLayer_140 : decode cX11_pileAndLayer 140 = .ok (.iload 12, 2) := by decide +kernel
theorem dX11_pileAndLayer_142 : decode cX11_pileAndLayer 142 = .ok (.imul, 1) := by decide +kernel
theorem dX11_pileAndLayer_143 : decode cX11_pileAndLayer 143 = .ok (.iconst 1, 1) := by decide +kernel
theorem dX11_pileAndLayer_144 : decode cX11_pileAndLayer 144 = .ok (.isub, 1) := by decide +kernel
theorem dX11_pileAndLayer_145 : decode cX11_pileAndLayer 145 = .ok (.iload 13, 2) := by decide +kernel
theorem dX11_pileAndLayer_147 : decode cX11_pileAndLayer 147 = .ok (.isub, 1) := by decide +kernel
theorem dX11_pileAndLayer_148 : decode cX11_pileAndLayer 148 = .ok (.istore 13, 2) := by decide +kernel
theorem dX11_pileAndLayer_150 : decode cX11_pileAndLayer 150 = .ok (.iconst 2, 1) := by decide +kernel
theorem dX11_pileAndLayer_151 : decode cX11_pileAndLayer 151 = .ok (.iload 8, 2) := by decide +kernel
theorem dX11_pileAndLayer_153 : decode cX11_pileAndLayer 153 = .ok (.imul, 1) := by decide +kernel
theorem dX11_pileAndLayer_154 : decode cX11_pileAndLayer 154 = .ok (.iconst 1, 1) := by decide +kernel
theorem dX11_pileAndLayer_155 : decode cX11_pileAndLayer 155 = .ok (.isub, 1) := by decide +kernel
theorem dX11_pileAndLayer_156 : decode cX11_pileAndLayer 156 = .ok (.iload 7, 2) := by decide +kernel
theorem dX11_pileAndLayer_158 : decode cX11_pileAndLayer 158 = .ok (.isub, 1) := by decide +kernel
theorem dX11_pileAndLayer_159 : decode cX11_pileAndLayer 159 = .ok (.istore 7, 2) := by decide +kernel
theorem dX11_pileAndLayer_161 : decode cX11_pileAndLayer 161 = .ok (.iload 13, 2) := by decide +kernel
theorem dX11_pileAndLayer_163 : decode cX11_pileAndLayer 163 = .ok (.iload 14, 2) := by decide +kernel
theorem dX11_pileAndLayer_165 : decode cX11_pileAndLayer 165 = .ok (.ifCond .eq 8, 3) := by decide +kernel
theorem dX11_pileAndLayer_168 : decode cX11_pileAndLayer 168 = .ok (.iload 12, 2) := by decide +kernel
theorem dX11_pileAndLayer_170 : decode cX11_pileAndLayer 170 = .ok (.goto 4, 3) := by decide +kernel
theorem dX11_pileAndLayer_173 : decode cX11_pileAndLayer 173 = .ok (.iconst 0, 1) := by decide +kernel
theorem dX11_pileAndLayer_174 : decode cX11_pileAndLayer 174 = .ok (.isub, 1) := by decide +kernel
theorem dX11_pileAndLayer_175 : decode cX11_pileAndLayer 175 = .ok (.istore 13, 2) := by decide +kernel
theorem dX11_pileAndLayer_177 : decode cX11_pileAndLayer 177 = .ok (.iload 11, 2) := by decide +kernel
theorem dX11_pileAndLayer_179 : decode cX11_pileAndLayer 179 = .ok (.ifCond .eq 8, 3) := by decide +kernel
theorem dX11_pileAndLayer_182 : decode cX11_pileAndLayer 182 = .ok (.iload 13, 2) := by decide +kernel
theorem dX11_pileAndLayer_184 : decode cX11_pileAndLayer 184 = .ok (.goto 5, 3) := by decide +kernel
theorem dX11_pileAndLayer_187 : decode cX11_pileAndLayer 187 = .ok (.iload 5, 2) := by decide +kernel
theorem dX11_pileAndLayer_189 : decode cX11_pileAndLayer 189 = .ok (.istore 5, 2) := by decide +kernel
theorem dX11_pileAndLayer_191 : decode cX11_pileAndLayer 191 = .ok (.iload 11, 2) := by decide +kernel
theorem dX11_pileAndLayer_193 : decode cX11_pileAndLayer 193 = .ok (.ifCond .eq 8, 3) := by decide +kernel
theorem dX11_pileAndLayer_196 : decode cX11_pileAndLayer 196 = .ok (.iload 6, 2) := by decide +kernel
theorem dX11_pileAndLayer_198 : decode cX11_pileAndLayer 198 = .ok (.goto 5, 3) := by decide +kernel
theorem dX11_pileAndLayer_201 : decode cX11_pileAndLayer 201 = .ok (.iload 13, 2) := by decide +kernel
theorem dX11_pileAndLayer_203 : decode cX11_pileAndLayer 203 = .ok (.istore 6, 2) := by decide +kernel
theorem dX11_pileAndLayer_205 : decode cX11_pileAndLayer 205 = .ok (.iload 11, 2) := by decide +kernel
theorem dX11_pileAndLayer_207 : decode cX11_pileAndLayer 207 = .ok (.ifCond .eq 8, 3) := by decide +kernel
theorem dX11_pileAndLayer_210 : decode cX11_pileAndLayer 210 = .ok (.iload 12, 2) := by decide +kernel
theorem dX11_pileAndLayer_212 : decode cX11_pileAndLayer 212 = .ok (.goto 4, 3) := by decide +kernel
theorem dX11_pileAndLayer_215 : decode cX11_pileAndLayer 215 = .ok (.iload_n 3, 1) := by decide +kernel
theorem dX11_pileAndLayer_216 : decode cX11_pileAndLayer 216 = .ok (.istore_n 3, 1) := by decide +kernel
theorem dX11_pileAndLayer_217 : decode cX11_pileAndLayer 217 = .ok (.iload 11, 2) := by decide +kernel
theorem dX11_pileAndLayer_219 : decode cX11_pileAndLayer 219 = .ok (.ifCond .eq 8, 3) := by decide +kernel
theorem dX11_pileAndLayer_222 : decode cX11_pileAndLayer 222 = .ok (.iload 4, 2) := by decide +kernel
theorem dX11_pileAndLayer_224 : decode cX11_pileAndLayer 224 = .ok (.goto 5, 3) := by decide +kernel
theorem dX11_pileAndLayer_227 : decode cX11_pileAndLayer 227 = .ok (.iload 12, 2) := by decide +kernel
theorem dX11_pileAndLayer_229 : decode cX11_pileAndLayer 229 = .ok (.istore 4, 2) := by decide +kernel
theorem dX11_pileAndLayer_231 : decode cX11_pileAndLayer 231 = .ok (.iload 8, 2) := by decide +kernel
theorem dX11_pileAndLayer_233 : decode cX11_pileAndLayer 233 = .ok (.iconst 2, 1) := by decide +kernel
theorem dX11_pileAndLayer_234 : decode cX11_pileAndLayer 234 = .ok (.imul, 1) := by decide +kernel
theorem dX11_pileAndLayer_235 : decode cX11_pileAndLayer 235 = .ok (.istore 8, 2) := by decide +kernel
theorem dX11_pileAndLayer_237 : decode cX11_pileAndLayer 237 = .ok (.iload 9, 2) := by decide +kernel
theorem dX11_pileAndLayer_239 : decode cX11_pileAndLayer 239 = .ok (.bipush 10, 2) := by decide +kernel
theorem dX11_pileAndLayer_241 : decode cX11_pileAndLayer 241 = .ok (.idiv, 1) := by decide +kernel
theorem dX11_pileAndLayer_242 : decode cX11_pileAndLayer 242 = .ok (.istore 9, 2) := by decide +kernel
theorem dX11_pileAndLayer_244 : decode cX11_pileAndLayer 244 = .ok (.goto (-212), 3) := by decide +kernel
theorem dX11_pileAndLayer_247 : decode cX11_pileAndLayer 247 = .ok (.iload_n 2, 1) := by decide +kernel
theorem dX11_pileAndLayer_248 : decode cX11_pileAndLayer 248 = .ok (.ifCond .ne 7, 3) := by decide +kernel
theorem dX11_pileAndLayer_251 : decode cX11_pileAndLayer 251 = .ok (.iconst (-1), 1) := by decide +kernel
theorem dX11_pileAndLayer_252 : decode cX11_pileAndLayer 252 = .ok (.goto 16, 3) := by decide +kernel
theorem dX11_pileAndLayer_255 : decode cX11_pileAndLayer 255 = .ok (.iload 6, 2) := by decide +kernel
theorem dX11_pileAndLayer_257 : decode cX11_pileAndLayer 257 = .ok (.iload_n 3, 1) := by decide +kernel
theorem dX11_pileAndLayer_258 : decode cX11_pileAndLayer 258 = .ok (.imul, 1) := by decide +kernel
theorem dX11_pileAndLayer_259 : decode cX11_pileAndLayer 259 = .ok (.iload 5, 2) := by decide +kernel
theorem dX11_pileAndLayer_261 : decode cX11_pileAndLayer 261 = .ok (.iadd, 1) := by decide +kernel
theorem dX11_pileAndLayer_262 : decode cX11_pileAndLayer 262 = .ok (.bipush 16, 2) := by decide +kernel
theorem dX11_pileAndLayer_264 : decode cX11_pileAndLayer 264 = .ok (.imul, 1) := by decide +kernel
theorem dX11_pileAndLayer_265 : decode cX11_pileAndLayer 265 = .ok (.iload 7, 2) := by decide +kernel
theorem dX11_pileAndLayer_267 : decode cX11_pileAndLayer 267 = .ok (.iadd, 1) := by decide +kernel
theorem dX11_pileAndLayer_268 : decode cX11_pileAndLayer 268 = .ok (.ireturn, 1) := by decide +kernel
theorem u106_0 {d : Nat} {R : gR} {μ : gM} {l1 l2 l3 l4 l5 l6 l7 l8 l9 l10 l11 l12 l13 l14 : Value} {st : List Value} {x : Int32}  : gc_W (gc_S d) cX11_pileAndLayer 11 0 R 0 [.int x, l1, l2, l3, l4, l5, l6, l7, l8, l9, l10, l11, l12, l13, l14] st μ ↔ gc_W (gc_S d) cX11_pileAndLayer 11 0 R 1 [.int x, l1, l2, l3, l4, l5, l6, l7, l8, l9, l10, l11, l12, l13, l14] (.int x :: st) μ := us_iload_n dX11_pileAndLayer_0 rfl
theorem u106_1 {d : Nat} {R : gR} {μ : gM} {L : List Value}  {a0 : Int32}  : gc_W (gc_S d) cX11_pileAndLayer 11 0 R 1 L [.int a0] μ ↔ gc_S d 105 [.int a0] μ (fun v μ' => gc_W (gc_S d) cX11_pileAndLayer 11 0 R 4 L (v.toList ++ []) μ') := us_stat dX11_pileAndLayer_1 gs_11_321 gne_11_321 gn_11_321 gc_11_321_97 rfl rfl rfl rfl
theorem u106_4 {d : Nat} {R : gR} {μ : gM} {l0 l1 l2 l3 l4 l5 l6 l7 l8 l9 l10 l11 l12 l13 l14 : Value} {st : List Value} {x : Int32} (hs : gc_sk l2 = true) : gc_W (gc_S d) cX11_pileAndLayer 11 0 R 4 [l0, l1, l2, l3, l4, l5, l6, l7, l8, l9, l10, l11, l12, l13, l14] (.int x :: st) μ ↔ gc_W (gc_S d) cX11_pileAndLayer 11 0 R 5 [l0, l1, .int x, l3, l4, l5, l6, l7, l8, l9, l10, l11, l12, l13, l14] st μ := us_istore_n dX11_pileAndLayer_4 rfl hs
theorem u106_5 {d : Nat} {R : gR} {μ : gM} {L : List Value} {st : List Value}   : gc_W (gc_S d) cX11_pileAndLayer 11 0 R 5 L st μ ↔ gc_W (gc_S d) cX11_pileAndLayer 11 0 R 6 L (.int 4 :: st) μ := us_iconst dX11_pileAndLayer_5 ci_iconst_4
theorem u106_6 {d : Nat} {R : gR} {μ : gM} {l0 l1 l2 l3 l4 l5 l6 l7 l8 l9 l10 l11 l12 l13 l14 : Value} {st : List Value} {x : Int32} (hs : gc_sk l3 = true) : gc_W (gc_S d) cX11_pileAndLayer 11 0 R 6 [l0, l1, l2, l3, l4, l5, l6, l7, l8, l9, l10, l11, l12, l13, l14] (.int x :: st) μ ↔ gc_W (gc_S d) cX11_pileAndLayer 11 0 R 7 [l0, l1, l2, .int x, l4, l5, l6, l7, l8, l9, l10, l11, l12, l13, l14] st μ := us_istore_n dX11_pileAndLayer_6 rfl hs
theorem u106_7 {d : Nat} {R : gR} {μ : gM} {L : List Value} {st : List Value}   : gc_W (gc_S d) cX11_pileAndLayer 11 0 R 7 L st μ ↔ gc_W (gc_S d) cX11_pileAndLayer 11 0 R 8 L (.int 4 :: st) μ := us_iconst dX11_pileAndLayer_7 ci_iconst_4
theorem u106_8 {d : Nat} {R : gR} {μ : gM} {l0 l1 l2 l3 l4 l5 l6 l7 l8 l9 l10 l11 l12 l13 l14 : Value} {st : List Value} {x : Int32} (hs : gc_sk l4 = true) : gc_W (gc_S d) cX11_pileAndLayer 11 0 R 8 [l0, l1, l2, l3, l4, l5, l6, l7, l8, l9, l10, l11, l12, l13, l14] (.int x :: st) μ ↔ gc_W (gc_S d) cX11_pileAndLayer 11 0 R 10 [l0, l1, l2, l3, .int x, l5, l6, l7, l8, l9, l10, l11, l12, l13, l14] st μ := us_istore dX11_pileAndLayer_8 rfl hs
theorem u106_10 {d : Nat} {R : gR} {μ : gM} {l0 l2 l3 l4 l5 l6 l7 l8 l9 l10 l11 l12 l13 l14 : Value} {st : List Value} {x : Int32}  : gc_W (gc_S d) cX11_pileAndLayer 11 0 R 10 [l0, .int x, l2, l3, l4, l5, l6, l7, l8, l9, l10, l11, l12, l13, l14] st μ ↔ gc_W (gc_S d) cX11_pileAndLayer 11 0 R 11 [l0, .int x, l2, l3, l4, l5, l6, l7, l8, l9, l10, l11, l12, l13, l14] (.int x :: st) μ := us_iload_n dX11_pileAndLayer_10 rfl
theorem u106_11 {d : Nat} {R : gR} {μ : gM} {L : List Value} {st : List Value}   : gc_W (gc_S d) cX11_pileAndLayer 11 0 R 11 L st μ ↔ gc_W (gc_S d) cX11_pileAndLayer 11 0 R 12 L (.int 4 :: st) μ := us_iconst dX11_pileAndLayer_11 ci_iconst_4
theorem u106_12 {d : Nat} {R : gR} {μ : gM} {L : List Value} {st : List Value} {x y : Int32}  : gc_W (gc_S d) cX11_pileAndLayer 11 0 R 12 L (.int y :: .int x :: st) μ ↔ (¬ y = 0 ∧ gc_W (gc_S d) cX11_pileAndLayer 11 0 R 13 L (.int (x - x / y * y) :: st) μ) := us_irem dX11_pileAndLayer_12
theorem u106_13 {d : Nat} {R : gR} {μ : gM} {l0 l1 l2 l3 l4 l5 l6 l7 l8 l9 l10 l11 l12 l13 l14 : Value} {st : List Value} {x : Int32} (hs : gc_sk l5 = true) : gc_W (gc_S d) cX11_pileAndLayer 11 0 R 13 [l0, l1, l2, l3, l4, l5, l6, l7, l8, l9, l10, l11, l12, l13, l14] (.int x :: st) μ ↔ gc_W (gc_S d) cX11_pileAndLayer 11 0 R 15 [l0, l1, l2, l3, l4, .int x, l6, l7, l8, l9, l10, l11, l12, l13, l14] st μ := us_istore dX11_pileAndLayer_13 rfl hs
theorem u106_15 {d : Nat} {R : gR} {μ : gM} {l0 l2 l3 l4 l5 l6 l7 l8 l9 l10 l11 l12 l13 l14 : Value} {st : List Value} {x : Int32}  : gc_W (gc_S d) cX11_pileAndLayer 11 0 R 15 [l0, .int x, l2, l3, l4, l5, l6, l7, l8, l9, l10, l11, l12, l13, l14] st μ ↔ gc_W (gc_S d) cX11_pileAndLayer 11 0 R 16 [l0, .int x, l2, l3, l4, l5, l6, l7, l8, l9, l10, l11, l12, l13, l14] (.int x :: st) μ := us_iload_n dX11_pileAndLayer_15 rfl
theorem u106_16 {d : Nat} {R : gR} {μ : gM} {L : List Value} {st : List Value}   : gc_W (gc_S d) cX11_pileAndLayer 11 0 R 16 L st μ ↔ gc_W (gc_S d) cX11_pileAndLayer 11 0 R 17 L (.int 4 :: st) μ := us_iconst dX11_pileAndLayer_16 ci_iconst_4
theorem u106_17 {d : Nat} {R : gR} {μ : gM} {L : List Value} {st : List Value} {x y : Int32}  : gc_W (gc_S d) cX11_pileAndLayer 11 0 R 17 L (.int y :: .int x :: st) μ ↔ (¬ y = 0 ∧ gc_W (gc_S d) cX11_pileAndLayer 11 0 R 18 L (.int (x / y) :: st) μ) := us_idiv dX11_pileAndLayer_17
theorem u106_18 {d : Nat} {R : gR} {μ : gM} {l0 l1 l2 l3 l4 l5 l6 l7 l8 l9 l10 l11 l12 l13 l14 : Value} {st : List Value} {x : Int32} (hs : gc_sk l6 = true) : gc_W (gc_S d) cX11_pileAndLayer 11 0 R 18 [l0, l1, l2, l3, l4, l5, l6, l7, l8, l9, l10, l11, l12, l13, l14] (.int x :: st) μ ↔ gc_W (gc_S d) cX11_pileAndLayer 11 0 R 20 [l0, l1, l2, l3, l4, l5, .int x, l7, l8, l9, l10, l11, l12, l13, l14] st μ := us_istore dX11_pileAndLayer_18 rfl hs
theorem u106_20 {d : Nat} {R : gR} {μ : gM} {L : List Value} {st : List Value}   : gc_W (gc_S d) cX11_pileAndLayer 11 0 R 20 L st μ ↔ gc_W (gc_S d) cX11_pileAndLayer 11 0 R 21 L (.int 0 :: st) μ := us_iconst dX11_pileAndLayer_20 ci_iconst_0
theorem u106_21 {d : Nat} {R : gR} {μ : gM} {l0 l1 l2 l3 l4 l5 l6 l7 l8 l9 l10 l11 l12 l13 l14 : Value} {st : List Value} {x : Int32} (hs : gc_sk l7 = true) : gc_W (gc_S d) cX11_pileAndLayer 11 0 R 21 [l0, l1, l2, l3, l4, l5, l6, l7, l8, l9, l10, l11, l12, l13, l14] (.int x :: st) μ ↔ gc_W (gc_S d) cX11_pileAndLayer 11 0 R 23 [l0, l1, l2, l3, l4, l5, l6, .int x, l8, l9, l10, l11, l12, l13, l14] st μ := us_istore dX11_pileAndLayer_21 rfl hs
theorem u106_23 {d : Nat} {R : gR} {μ : gM} {L : List Value} {st : List Value}   : gc_W (gc_S d) cX11_pileAndLayer 11 0 R 23 L st μ ↔ gc_W (gc_S d) cX11_pileAndLayer 11 0 R 24 L (.int 1 :: st) μ := us_iconst dX11_pileAndLayer_23 ci_iconst_1
theorem u106_24 {d : Nat} {R : gR} {μ : gM} {l0 l1 l2 l3 l4 l5 l6 l7 l8 l9 l10 l11 l12 l13 l14 : Value} {st : List Value} {x : Int32} (hs : gc_sk l8 = true) : gc_W (gc_S d) cX11_pileAndLayer 11 0 R 24 [l0, l1, l2, l3, l4, l5, l6, l7, l8, l9, l10, l11, l12, l13, l14] (.int x :: st) μ ↔ gc_W (gc_S d) cX11_pileAndLayer 11 0 R 26 [l0, l1, l2, l3, l4, l5, l6, l7, .int x, l9, l10, l11, l12, l13, l14] st μ := us_istore dX11_pileAndLayer_24 rfl hs
theorem u106_26 {d : Nat} {R : gR} {μ : gM} {l0 l1 l3 l4 l5 l6 l7 l8 l9 l10 l11 l12 l13 l14 : Value} {st : List Value} {x : Int32}  : gc_W (gc_S d) cX11_pileAndLayer 11 0 R 26 [l0, l1, .int x, l3, l4, l5, l6, l7, l8, l9, l10, l11, l12, l13, l14] st μ ↔ gc_W (gc_S d) cX11_pileAndLayer 11 0 R 27 [l0, l1, .int x, l3, l4, l5, l6, l7, l8, l9, l10, l11, l12, l13, l14] (.int x :: st) μ := us_iload_n dX11_pileAndLayer_26 rfl
theorem u106_27 {d : Nat} {R : gR} {μ : gM} {L : List Value} {st : List Value}   : gc_W (gc_S d) cX11_pileAndLayer 11 0 R 27 L st μ ↔ gc_W (gc_S d) cX11_pileAndLayer 11 0 R 29 L (.int 10 :: st) μ := us_bipush dX11_pileAndLayer_27 ci_bipush_10
theorem u106_29 {d : Nat} {R : gR} {μ : gM} {L : List Value} {st : List Value} {x y : Int32}  : gc_W (gc_S d) cX11_pileAndLayer 11 0 R 29 L (.int y :: .int x :: st) μ ↔ (¬ y = 0 ∧ gc_W (gc_S d) cX11_pileAndLayer 11 0 R 30 L (.int (x / y) :: st) μ) := us_idiv dX11_pileAndLayer_29
theorem u106_30 {d : Nat} {R : gR} {μ : gM} {l0 l1 l2 l3 l4 l5 l6 l7 l8 l9 l10 l11 l12 l13 l14 : Value} {st : List Value} {x : Int32} (hs : gc_sk l9 = true) : gc_W (gc_S d) cX11_pileAndLayer 11 0 R 30 [l0, l1, l2, l3, l4, l5, l6, l7, l8, l9, l10, l11, l12, l13, l14] (.int x :: st) μ ↔ gc_W (gc_S d) cX11_pileAndLayer 11 0 R 32 [l0, l1, l2, l3, l4, l5, l6, l7, l8, .int x, l10, l11, l12, l13, l14] st μ := us_istore dX11_pileAndLayer_30 rfl hs
theorem u106_32 {d : Nat} {R : gR} {μ : gM} {l0 l1 l2 l3 l4 l5 l6 l7 l8 l10 l11 l12 l13 l14 : Value} {st : List Value} {x : Int32}  : gc_W (gc_S d) cX11_pileAndLayer 11 0 R 32 [l0, l1, l2, l3, l4, l5, l6, l7, l8, .int x, l10, l11, l12, l13, l14] st μ ↔ gc_W (gc_S d) cX11_pileAndLayer 11 0 R 34 [l0, l1, l2, l3, l4, l5, l6, l7, l8, .int x, l10, l11, l12, l13, l14] (.int x :: st) μ := us_iload dX11_pileAndLayer_32 rfl
theorem u106_34 {d : Nat} {R : gR} {μ : gM} {L : List Value} {st : List Value} {x : Int32}  : gc_W (gc_S d) cX11_pileAndLayer 11 0 R 34 L (.int x :: st) μ ↔ if x ≤ 0 then gc_W (gc_S d) cX11_pileAndLayer 11 0 R 247 L st μ else gc_W (gc_S d) cX11_pileAndLayer 11 0 R 37 L st μ := us_ifle dX11_pileAndLayer_34 rfl
theorem u106_37 {d : Nat} {R : gR} {μ : gM} {l1 l2 l3 l4 l5 l6 l7 l8 l9 l10 l11 l12 l13 l14 : Value} {st : List Value} {x : Int32}  : gc_W (gc_S d) cX11_pileAndLayer 11 0 R 37 [.int x, l1, l2, l3, l4, l5, l6, l7, l8, l9, l10, l11, l12, l13, l14] st μ ↔ gc_W (gc_S d) cX11_pileAndLayer 11 0 R 38 [.int x, l1, l2, l3, l4, l5, l6, l7, l8, l9, l10, l11, l12, l13, l14] (.int x :: st) μ := us_iload_n dX11_pileAndLayer_37 rfl
theorem u106_38 {d : Nat} {R : gR} {μ : gM} {l0 l1 l2 l3 l4 l5 l6 l7 l8 l10 l11 l12 l13 l14 : Value} {st : List Value} {x : Int32}  : gc_W (gc_S d) cX11_pileAndLayer 11 0 R 38 [l0, l1, l2, l3, l4, l5, l6, l7, l8, .int x, l10, l11, l12, l13, l14] st μ ↔ gc_W (gc_S d) cX11_pileAndLayer 11 0 R 40 [l0, l1, l2, l3, l4, l5, l6, l7, l8, .int x, l10, l11, l12, l13, l14] (.int x :: st) μ := us_iload dX11_pileAndLayer_38 rfl
theorem u106_40 {d : Nat} {R : gR} {μ : gM} {L : List Value} {st : List Value} {x y : Int32}  : gc_W (gc_S d) cX11_pileAndLayer 11 0 R 40 L (.int y :: .int x :: st) μ ↔ (¬ y = 0 ∧ gc_W (gc_S d) cX11_pileAndLayer 11 0 R 41 L (.int (x / y) :: st) μ) := us_idiv dX11_pileAndLayer_40
theorem u106_41 {d : Nat} {R : gR} {μ : gM} {L : List Value} {st : List Value}   : gc_W (gc_S d) cX11_pileAndLayer 11 0 R 41 L st μ ↔ gc_W (gc_S d) cX11_pileAndLayer 11 0 R 43 L (.int 10 :: st) μ := us_bipush dX11_pileAndLayer_41 ci_bipush_10
theorem u106_43 {d : Nat} {R : gR} {μ : gM} {L : List Value} {st : List Value} {x y : Int32}  : gc_W (gc_S d) cX11_pileAndLayer 11 0 R 43 L (.int y :: .int x :: st) μ ↔ (¬ y = 0 ∧ gc_W (gc_S d) cX11_pileAndLayer 11 0 R 44 L (.int (x - x / y * y) :: st) μ) := us_irem dX11_pileAndLayer_43
theorem u106_44 {d : Nat} {R : gR} {μ : gM} {l0 l1 l2 l3 l4 l5 l6 l7 l8 l9 l10 l11 l12 l13 l14 : Value} {st : List Value} {x : Int32} (hs : gc_sk l10 = true) : gc_W (gc_S d) cX11_pileAndLayer 11 0 R 44 [l0, l1, l2, l3, l4, l5, l6, l7, l8, l9, l10, l11, l12, l13, l14] (.int x :: st) μ ↔ gc_W (gc_S d) cX11_pileAndLayer 11 0 R 46 [l0, l1, l2, l3, l4, l5, l6, l7, l8, l9, .int x, l11, l12, l13, l14] st μ := us_istore dX11_pileAndLayer_44 rfl hs
theorem u106_46 {d : Nat} {R : gR} {μ : gM} {l0 l1 l2 l3 l4 l5 l6 l7 l8 l9 l11 l12 l13 l14 : Value} {st : List Value} {x : Int32}  : gc_W (gc_S d) cX11_pileAndLayer 11 0 R 46 [l0, l1, l2, l3, l4, l5, l6, l7, l8, l9, .int x, l11, l12, l13, l14] st μ ↔ gc_W (gc_S d) cX11_pileAndLayer 11 0 R 48 [l0, l1, l2, l3, l4, l5, l6, l7, l8, l9, .int x, l11, l12, l13, l14] (.int x :: st) μ := us_iload dX11_pileAndLayer_46 rfl
theorem u106_48 {d : Nat} {R : gR} {μ : gM} {L : List Value} {st : List Value}   : gc_W (gc_S d) cX11_pileAndLayer 11 0 R 48 L st μ ↔ gc_W (gc_S d) cX11_pileAndLayer 11 0 R 49 L (.int 2 :: st) μ := us_iconst dX11_pileAndLayer_48 ci_iconst_2
theorem u106_49 {d : Nat} {R : gR} {μ : gM} {L : List Value} {st : List Value} {x y : Int32}  : gc_W (gc_S d) cX11_pileAndLayer 11 0 R 49 L (.int y :: .int x :: st) μ ↔ if y < x then gc_W (gc_S d) cX11_pileAndLayer 11 0 R 56 L st μ else gc_W (gc_S d) cX11_pileAndLayer 11 0 R 52 L st μ := us_icgt dX11_pileAndLayer_49 rfl
theorem u106_52 {d : Nat} {R : gR} {μ : gM} {L : List Value} {st : List Value}   : gc_W (gc_S d) cX11_pileAndLayer 11 0 R 52 L st μ ↔ gc_W (gc_S d) cX11_pileAndLayer 11 0 R 53 L (.int 1 :: st) μ := us_iconst dX11_pileAndLayer_52 ci_iconst_1
theorem u106_53 {d : Nat} {R : gR} {μ : gM} {L : List Value} {st : List Value}  : gc_W (gc_S d) cX11_pileAndLayer 11 0 R 53 L st μ ↔ gc_W (gc_S d) cX11_pileAndLayer 11 0 R 57 L st μ := us_goto dX11_pileAndLayer_53 rfl
theorem u106_56 {d : Nat} {R : gR} {μ : gM} {L : List Value} {st : List Value}   : gc_W (gc_S d) cX11_pileAndLayer 11 0 R 56 L st μ ↔ gc_W (gc_S d) cX11_pileAndLayer 11 0 R 57 L (.int 0 :: st) μ := us_iconst dX11_pileAndLayer_56 ci_iconst_0
theorem u106_57 {d : Nat} {R : gR} {μ : gM} {l0 l1 l2 l3 l4 l5 l6 l7 l8 l9 l10 l11 l12 l13 l14 : Value} {st : List Value} {x : Int32} (hs : gc_sk l11 = true) : gc_W (gc_S d) cX11_pileAndLayer 11 0 R 57 [l0, l1, l2, l3, l4, l5, l6, l7, l8, l9, l10, l11, l12, l13, l14] (.int x :: st) μ ↔ gc_W (gc_S d) cX11_pileAndLayer 11 0 R 59 [l0, l1, l2, l3, l4, l5, l6, l7, l8, l9, l10, .int x, l12, l13, l14] st μ := us_istore dX11_pileAndLayer_57 rfl hs
theorem u106_59 {d : Nat} {R : gR} {μ : gM} {l0 l1 l2 l3 l4 l5 l6 l7 l8 l9 l10 l12 l13 l14 : Value} {st : List Value} {x : Int32}  : gc_W (gc_S d) cX11_pileAndLayer 11 0 R 59 [l0, l1, l2, l3, l4, l5, l6, l7, l8, l9, l10, .int x, l12, l13, l14] st μ ↔ gc_W (gc_S d) cX11_pileAndLayer 11 0 R 61 [l0, l1, l2, l3, l4, l5, l6, l7, l8, l9, l10, .int x, l12, l13, l14] (.int x :: st) μ := us_iload dX11_pileAndLayer_59 rfl
theorem u106_61 {d : Nat} {R : gR} {μ : gM} {L : List Value} {st : List Value} {x : Int32}  : gc_W (gc_S d) cX11_pileAndLayer 11 0 R 61 L (.int x :: st) μ ↔ if x = 0 then gc_W (gc_S d) cX11_pileAndLayer 11 0 R 68 L st μ else gc_W (gc_S d) cX11_pileAndLayer 11 0 R 64 L st μ := us_ifeq dX11_pileAndLayer_61 rfl
theorem u106_64 {d : Nat} {R : gR} {μ : gM} {l0 l1 l2 l4 l5 l6 l7 l8 l9 l10 l11 l12 l13 l14 : Value} {st : List Value} {x : Int32}  : gc_W (gc_S d) cX11_pileAndLayer 11 0 R 64 [l0, l1, l2, .int x, l4, l5, l6, l7, l8, l9, l10, l11, l12, l13, l14] st μ ↔ gc_W (gc_S d) cX11_pileAndLayer 11 0 R 65 [l0, l1, l2, .int x, l4, l5, l6, l7, l8, l9, l10, l11, l12, l13, l14] (.int x :: st) μ := us_iload_n dX11_pileAndLayer_64 rfl
theorem u106_65 {d : Nat} {R : gR} {μ : gM} {L : List Value} {st : List Value}  : gc_W (gc_S d) cX11_pileAndLayer 11 0 R 65 L st μ ↔ gc_W (gc_S d) cX11_pileAndLayer 11 0 R 70 L st μ := us_goto dX11_pileAndLayer_65 rfl
theorem u106_68 {d : Nat} {R : gR} {μ : gM} {l0 l1 l2 l3 l5 l6 l7 l8 l9 l10 l11 l12 l13 l14 : Value} {st : List Value} {x : Int32}  : gc_W (gc_S d) cX11_pileAndLayer 11 0 R 68 [l0, l1, l2, l3, .int x, l5, l6, l7, l8, l9, l10, l11, l12, l13, l14] st μ ↔ gc_W (gc_S d) cX11_pileAndLayer 11 0 R 70 [l0, l1, l2, l3, .int x, l5, l6, l7, l8, l9, l10, l11, l12, l13, l14] (.int x :: st) μ := us_iload dX11_pileAndLayer_68 rfl
theorem u106_70 {d : Nat} {R : gR} {μ : gM} {L : List Value} {st : List Value}   : gc_W (gc_S d) cX11_pileAndLayer 11 0 R 70 L st μ ↔ gc_W (gc_S d) cX11_pileAndLayer 11 0 R 71 L (.int 2 :: st) μ := us_iconst dX11_pileAndLayer_70 ci_iconst_2
theorem u106_71 {d : Nat} {R : gR} {μ : gM} {L : List Value} {st : List Value} {x y : Int32}  : gc_W (gc_S d) cX11_pileAndLayer 11 0 R 71 L (.int y :: .int x :: st) μ ↔ (¬ y = 0 ∧ gc_W (gc_S d) cX11_pileAndLayer 11 0 R 72 L (.int (x / y) :: st) μ) := us_idiv dX11_pileAndLayer_71
theorem u106_72 {d : Nat} {R : gR} {μ : gM} {l0 l1 l2 l3 l4 l5 l6 l7 l8 l9 l10 l11 l12 l13 l14 : Value} {st : List Value} {x : Int32} (hs : gc_sk l12 = true) : gc_W (gc_S d) cX11_pileAndLayer 11 0 R 72 [l0, l1, l2, l3, l4, l5, l6, l7, l8, l9, l10, l11, l12, l13, l14] (.int x :: st) μ ↔ gc_W (gc_S d) cX11_pileAndLayer 11 0 R 74 [l0, l1, l2, l3, l4, l5, l6, l7, l8, l9, l10, l11, .int x, l13, l14] st μ := us_istore dX11_pileAndLayer_72 rfl hs
theorem u106_74 {d : Nat} {R : gR} {μ : gM} {l0 l1 l2 l3 l4 l5 l6 l7 l8 l9 l11 l12 l13 l14 : Value} {st : List Value} {x : Int32}  : gc_W (gc_S d) cX11_pileAndLayer 11 0 R 74 [l0, l1, l2, l3, l4, l5, l6, l7, l8, l9, .int x, l11, l12, l13, l14] st μ ↔ gc_W (gc_S d) cX11_pileAndLayer 11 0 R 76 [l0, l1, l2, l3, l4, l5, l6, l7, l8, l9, .int x, l11, l12, l13, l14] (.int x :: st) μ := us_iload dX11_pileAndLayer_74 rfl
theorem u106_76 {d : Nat} {R : gR} {μ : gM} {L : List Value} {st : List Value}   : gc_W (gc_S d) cX11_pileAndLayer 11 0 R 76 L st μ ↔ gc_W (gc_S d) cX11_pileAndLayer 11 0 R 77 L (.int 1 :: st) μ := us_iconst dX11_pileAndLayer_76 ci_iconst_1
theorem u106_77 {d : Nat} {R : gR} {μ : gM} {L : List Value} {st : List Value} {x y : Int32}  : gc_W (gc_S d) cX11_pileAndLayer 11 0 R 77 L (.int y :: .int x :: st) μ ↔ if x < y then gc_W (gc_S d) cX11_pileAndLayer 11 0 R 91 L st μ else gc_W (gc_S d) cX11_pileAndLayer 11 0 R 80 L st μ := us_iclt dX11_pileAndLayer_77 rfl
theorem u106_80 {d : Nat} {R : gR} {μ : gM} {l0 l1 l2 l3 l4 l5 l6 l7 l8 l9 l11 l12 l13 l14 : Value} {st : List Value} {x : Int32}  : gc_W (gc_S d) cX11_pileAndLayer 11 0 R 80 [l0, l1, l2, l3, l4, l5, l6, l7, l8, l9, .int x, l11, l12, l13, l14] st μ ↔ gc_W (gc_S d) cX11_pileAndLayer 11 0 R 82 [l0, l1, l2, l3, l4, l5, l6, l7, l8, l9, .int x, l11, l12, l13, l14] (.int x :: st) μ := us_iload dX11_pileAndLayer_80 rfl
theorem u106_82 {d : Nat} {R : gR} {μ : gM} {L : List Value} {st : List Value}   : gc_W (gc_S d) cX11_pileAndLayer 11 0 R 82 L st μ ↔ gc_W (gc_S d) cX11_pileAndLayer 11 0 R 83 L (.int 4 :: st) μ := us_iconst dX11_pileAndLayer_82 ci_iconst_4
theorem u106_83 {d : Nat} {R : gR} {μ : gM} {L : List Value} {st : List Value} {x y : Int32}  : gc_W (gc_S d) cX11_pileAndLayer 11 0 R 83 L (.int y :: .int x :: st) μ ↔ if y < x then gc_W (gc_S d) cX11_pileAndLayer 11 0 R 91 L st μ else gc_W (gc_S d) cX11_pileAndLayer 11 0 R 86 L st μ := us_icgt dX11_pileAndLayer_83 rfl
theorem u106_86 {d : Nat} {R : gR} {μ : gM} {l0 l1 l2 l3 l4 l5 l6 l7 l8 l9 l10 l11 l13 l14 : Value} {st : List Value} {x : Int32}  : gc_W (gc_S d) cX11_pileAndLayer 11 0 R 86 [l0, l1, l2, l3, l4, l5, l6, l7, l8, l9, l10, l11, .int x, l13, l14] st μ ↔ gc_W (gc_S d) cX11_pileAndLayer 11 0 R 88 [l0, l1, l2, l3, l4, l5, l6, l7, l8, l9, l10, l11, .int x, l13, l14] (.int x :: st) μ := us_iload dX11_pileAndLayer_86 rfl
theorem u106_88 {d : Nat} {R : gR} {μ : gM} {L : List Value} {st : List Value} {x : Int32}  : gc_W (gc_S d) cX11_pileAndLayer 11 0 R 88 L (.int x :: st) μ ↔ if x = 0 then gc_W (gc_S d) cX11_pileAndLayer 11 0 R 91 L st μ else gc_W (gc_S d) cX11_pileAndLayer 11 0 R 93 L st μ := us_ifne dX11_pileAndLayer_88 rfl
theorem u106_91 {d : Nat} {R : gR} {μ : gM} {L : List Value} {st : List Value}   : gc_W (gc_S d) cX11_pileAndLayer 11 0 R 91 L st μ ↔ gc_W (gc_S d) cX11_pileAndLayer 11 0 R 92 L (.int (-1) :: st) μ := us_iconst dX11_pileAndLayer_91 ci_iconst_m1
theorem u106_92 {d : Nat} {R : gR} {μ : gM} {L : List Value} {v : Int32}  : gc_W (gc_S d) cX11_pileAndLayer 11 0 R 92 L [.int v] μ ↔ R (some (.int v)) μ := us_iret dX11_pileAndLayer_92 rfl
theorem u106_93 {d : Nat} {R : gR} {μ : gM} {l0 l1 l2 l3 l4 l5 l6 l7 l8 l9 l10 l12 l13 l14 : Value} {st : List Value} {x : Int32}  : gc_W (gc_S d) cX11_pileAndLayer 11 0 R 93 [l0, l1, l2, l3, l4, l5, l6, l7, l8, l9, l10, .int x, l12, l13, l14] st μ ↔ gc_W (gc_S d) cX11_pileAndLayer 11 0 R 95 [l0, l1, l2, l3, l4, l5, l6, l7, l8, l9, l10, .int x, l12, l13, l14] (.int x :: st) μ := us_iload dX11_pileAndLayer_93 rfl
theorem u106_95 {d : Nat} {R : gR} {μ : gM} {L : List Value} {st : List Value} {x : Int32}  : gc_W (gc_S d) cX11_pileAndLayer 11 0 R 95 L (.int x :: st) μ ↔ if x = 0 then gc_W (gc_S d) cX11_pileAndLayer 11 0 R 103 L st μ else gc_W (gc_S d) cX11_pileAndLayer 11 0 R 98 L st μ := us_ifeq dX11_pileAndLayer_95 rfl
theorem u106_98 {d : Nat} {R : gR} {μ : gM} {l0 l1 l2 l3 l4 l6 l7 l8 l9 l10 l11 l12 l13 l14 : Value} {st : List Value} {x : Int32}  : gc_W (gc_S d) cX11_pileAndLayer 11 0 R 98 [l0, l1, l2, l3, l4, .int x, l6, l7, l8, l9, l10, l11, l12, l13, l14] st μ ↔ gc_W (gc_S d) cX11_pileAndLayer 11 0 R 100 [l0, l1, l2, l3, l4, .int x, l6, l7, l8, l9, l10, l11, l12, l13, l14] (.int x :: st) μ := us_iload dX11_pileAndLayer_98 rfl
theorem u106_100 {d : Nat} {R : gR} {μ : gM} {L : List Value} {st : List Value}  : gc_W (gc_S d) cX11_pileAndLayer 11 0 R 100 L st μ ↔ gc_W (gc_S d) cX11_pileAndLayer 11 0 R 105 L st μ := us_goto dX11_pileAndLayer_100 rfl
theorem u106_103 {d : Nat} {R : gR} {μ : gM} {l0 l1 l2 l3 l4 l5 l7 l8 l9 l10 l11 l12 l13 l14 : Value} {st : List Value} {x : Int32}  : gc_W (gc_S d) cX11_pileAndLayer 11 0 R 103 [l0, l1, l2, l3, l4, l5, .int x, l7, l8, l9, l10, l11, l12, l13, l14] st μ ↔ gc_W (gc_S d) cX11_pileAndLayer 11 0 R 105 [l0, l1, l2, l3, l4, l5, .int x, l7, l8, l9, l10, l11, l12, l13, l14] (.int x :: st) μ := us_iload dX11_pileAndLayer_103 rfl
theorem u106_105 {d : Nat} {R : gR} {μ : gM} {l0 l1 l2 l3 l4 l5 l6 l7 l8 l9 l10 l11 l12 l13 l14 : Value} {st : List Value} {x : Int32} (hs : gc_sk l13 = true) : gc_W (gc_S d) cX11_pileAndLayer 11 0 R 105 [l0, l1, l2, l3, l4, l5, l6, l7, l8, l9, l10, l11, l12, l13, l14] (.int x :: st) μ ↔ gc_W (gc_S d) cX11_pileAndLayer 11 0 R 107 [l0, l1, l2, l3, l4, l5, l6, l7, l8, l9, l10, l11, l12, .int x, l14] st μ := us_istore dX11_pileAndLayer_105 rfl hs
theorem u106_107 {d : Nat} {R : gR} {μ : gM} {l0 l1 l2 l3 l4 l5 l6 l7 l8 l9 l11 l12 l13 l14 : Value} {st : List Value} {x : Int32}  : gc_W (gc_S d) cX11_pileAndLayer 11 0 R 107 [l0, l1, l2, l3, l4, l5, l6, l7, l8, l9, .int x, l11, l12, l13, l14] st μ ↔ gc_W (gc_S d) cX11_pileAndLayer 11 0 R 109 [l0, l1, l2, l3, l4, l5, l6, l7, l8, l9, .int x, l11, l12, l13, l14] (.int x :: st) μ := us_iload dX11_pileAndLayer_107 rfl
theorem u106_109 {d : Nat} {R : gR} {μ : gM} {L : List Value} {st : List Value}   : gc_W (gc_S d) cX11_pileAndLayer 11 0 R 109 L st μ ↔ gc_W (gc_S d) cX11_pileAndLayer 11 0 R 110 L (.int 2 :: st) μ := us_iconst dX11_pileAndLayer_109 ci_iconst_2
theorem u106_110 {d : Nat} {R : gR} {μ : gM} {L : List Value} {st : List Value} {x y : Int32}  : gc_W (gc_S d) cX11_pileAndLayer 11 0 R 110 L (.int y :: .int x :: st) μ ↔ (¬ y = 0 ∧ gc_W (gc_S d) cX11_pileAndLayer 11 0 R 111 L (.int (x - x / y * y) :: st) μ) := us_irem dX11_pileAndLayer_110
theorem u106_111 {d : Nat} {R : gR} {μ : gM} {L : List Value} {st : List Value}   : gc_W (gc_S d) cX11_pileAndLayer 11 0 R 111 L st μ ↔ gc_W (gc_S d) cX11_pileAndLayer 11 0 R 112 L (.int 1 :: st) μ := us_iconst dX11_pileAndLayer_111 ci_iconst_1
theorem u106_112 {d : Nat} {R : gR} {μ : gM} {L : List Value} {st : List Value} {x y : Int32}  : gc_W (gc_S d) cX11_pileAndLayer 11 0 R 112 L (.int y :: .int x :: st) μ ↔ if x = y then gc_W (gc_S d) cX11_pileAndLayer 11 0 R 115 L st μ else gc_W (gc_S d) cX11_pileAndLayer 11 0 R 119 L st μ := us_icne dX11_pileAndLayer_112 rfl
theorem u106_115 {d : Nat} {R : gR} {μ : gM} {L : List Value} {st : List Value}   : gc_W (gc_S d) cX11_pileAndLayer 11 0 R 115 L st μ ↔ gc_W (gc_S d) cX11_pileAndLayer 11 0 R 116 L (.int 1 :: st) μ := us_iconst dX11_pileAndLayer_115 ci_iconst_1
theorem u106_116 {d : Nat} {R : gR} {μ : gM} {L : List Value} {st : List Value}  : gc_W (gc_S d) cX11_pileAndLayer 11 0 R 116 L st μ ↔ gc_W (gc_S d) cX11_pileAndLayer 11 0 R 120 L st μ := us_goto dX11_pileAndLayer_116 rfl
theorem u106_119 {d : Nat} {R : gR} {μ : gM} {L : List Value} {st : List Value}   : gc_W (gc_S d) cX11_pileAndLayer 11 0 R 119 L st μ ↔ gc_W (gc_S d) cX11_pileAndLayer 11 0 R 120 L (.int 0 :: st) μ := us_iconst dX11_pileAndLayer_119 ci_iconst_0
theorem u106_120 {d : Nat} {R : gR} {μ : gM} {l0 l1 l2 l3 l4 l5 l6 l7 l8 l9 l10 l11 l12 l13 l14 : Value} {st : List Value} {x : Int32} (hs : gc_sk l14 = true) : gc_W (gc_S d) cX11_pileAndLayer 11 0 R 120 [l0, l1, l2, l3, l4, l5, l6, l7, l8, l9, l10, l11, l12, l13, l14] (.int x :: st) μ ↔ gc_W (gc_S d) cX11_pileAndLayer 11 0 R 122 [l0, l1, l2, l3, l4, l5, l6, l7, l8, l9, l10, l11, l12, l13, .int x] st μ := us_istore dX11_pileAndLayer_120 rfl hs
theorem u106_122 {d : Nat} {R : gR} {μ : gM} {l0 l1 l2 l3 l4 l5 l6 l7 l8 l9 l10 l11 l12 l13 : Value} {st : List Value} {x : Int32}  : gc_W (gc_S d) cX11_pileAndLayer 11 0 R 122 [l0, l1, l2, l3, l4, l5, l6, l7, l8, l9, l10, l11, l12, l13, .int x] st μ ↔ gc_W (gc_S d) cX11_pileAndLayer 11 0 R 124 [l0, l1, l2, l3, l4, l5, l6, l7, l8, l9, l10, l11, l12, l13, .int x] (.int x :: st) μ := us_iload dX11_pileAndLayer_122 rfl
theorem u106_124 {d : Nat} {R : gR} {μ : gM} {l0 l1 l2 l3 l4 l5 l6 l7 l8 l9 l10 l11 l12 l14 : Value} {st : List Value} {x : Int32}  : gc_W (gc_S d) cX11_pileAndLayer 11 0 R 124 [l0, l1, l2, l3, l4, l5, l6, l7, l8, l9, l10, l11, l12, .int x, l14] st μ ↔ gc_W (gc_S d) cX11_pileAndLayer 11 0 R 126 [l0, l1, l2, l3, l4, l5, l6, l7, l8, l9, l10, l11, l12, .int x, l14] (.int x :: st) μ := us_iload dX11_pileAndLayer_124 rfl
theorem u106_126 {d : Nat} {R : gR} {μ : gM} {l0 l1 l2 l3 l4 l5 l6 l7 l8 l9 l10 l11 l13 l14 : Value} {st : List Value} {x : Int32}  : gc_W (gc_S d) cX11_pileAndLayer 11 0 R 126 [l0, l1, l2, l3, l4, l5, l6, l7, l8, l9, l10, l11, .int x, l13, l14] st μ ↔ gc_W (gc_S d) cX11_pileAndLayer 11 0 R 128 [l0, l1, l2, l3, l4, l5, l6, l7, l8, l9, l10, l11, .int x, l13, l14] (.int x :: st) μ := us_iload dX11_pileAndLayer_126 rfl
theorem u106_128 {d : Nat} {R : gR} {μ : gM} {L : List Value} {st : List Value} {x y : Int32}  : gc_W (gc_S d) cX11_pileAndLayer 11 0 R 128 L (.int y :: .int x :: st) μ ↔ if y ≤ x then gc_W (gc_S d) cX11_pileAndLayer 11 0 R 135 L st μ else gc_W (gc_S d) cX11_pileAndLayer 11 0 R 131 L st μ := us_icge dX11_pileAndLayer_128 rfl
theorem u106_131 {d : Nat} {R : gR} {μ : gM} {L : List Value} {st : List Value}   : gc_W (gc_S d) cX11_pileAndLayer 11 0 R 131 L st μ ↔ gc_W (gc_S d) cX11_pileAndLayer 11 0 R 132 L (.int 1 :: st) μ := us_iconst dX11_pileAndLayer_131 ci_iconst_1
theorem u106_132 {d : Nat} {R : gR} {μ : gM} {L : List Value} {st : List Value}  : gc_W (gc_S d) cX11_pileAndLayer 11 0 R 132 L st μ ↔ gc_W (gc_S d) cX11_pileAndLayer 11 0 R 136 L st μ := us_goto dX11_pileAndLayer_132 rfl
theorem u106_135 {d : Nat} {R : gR} {μ : gM} {L : List Value} {st : List Value}   : gc_W (gc_S d) cX11_pileAndLayer 11 0 R 135 L st μ ↔ gc_W (gc_S d) cX11_pileAndLayer 11 0 R 136 L (.int 0 :: st) μ := us_iconst dX11_pileAndLayer_135 ci_iconst_0
theorem u106_136 {d : Nat} {R : gR} {μ : gM} {L : List Value} {st : List Value} {x y : Int32}  : gc_W (gc_S d) cX11_pileAndLayer 11 0 R 136 L (.int y :: .int x :: st) μ ↔ if x = y then gc_W (gc_S d) cX11_pileAndLayer 11 0 R 139 L st μ else gc_W (gc_S d) cX11_pileAndLayer 11 0 R 161 L st μ := us_icne dX11_pileAndLayer_136 rfl
theorem u106_139 {d : Nat} {R : gR} {μ : gM} {L : List Value} {st : List Value}   : gc_W (gc_S d) cX11_pileAndLayer 11 0 R 139 L st μ ↔ gc_W (gc_S d) cX11_pileAndLayer 11 0 R 140 L (.int 2 :: st) μ := us_iconst dX11_pileAndLayer_139 ci_iconst_2
theorem u106_140 {d : Nat} {R : gR} {μ : gM} {l0 l1 l2 l3 l4 l5 l6 l7 l8 l9 l10 l11 l13 l14 : Value} {st : List Value} {x : Int32}  : gc_W (gc_S d) cX11_pileAndLayer 11 0 R 140 [l0, l1, l2, l3, l4, l5, l6, l7, l8, l9, l10, l11, .int x, l13, l14] st μ ↔ gc_W (gc_S d) cX11_pileAndLayer 11 0 R 142 [l0, l1, l2, l3, l4, l5, l6, l7, l8, l9, l10, l11, .int x, l13, l14] (.int x :: st) μ := us_iload dX11_pileAndLayer_140 rfl
theorem u106_142 {d : Nat} {R : gR} {μ : gM} {L : List Value} {st : List Value} {x y : Int32}  : gc_W (gc_S d) cX11_pileAndLayer 11 0 R 142 L (.int y :: .int x :: st) μ ↔ gc_W (gc_S d) cX11_pileAndLayer 11 0 R 143 L (.int (x * y) :: st) μ := us_imul dX11_pileAndLayer_142
theorem u106_143 {d : Nat} {R : gR} {μ : gM} {L : List Value} {st : List Value}   : gc_W (gc_S d) cX11_pileAndLayer 11 0 R 143 L st μ ↔ gc_W (gc_S d) cX11_pileAndLayer 11 0 R 144 L (.int 1 :: st) μ := us_iconst dX11_pileAndLayer_143 ci_iconst_1
theorem u106_144 {d : Nat} {R : gR} {μ : gM} {L : List Value} {st : List Value} {x y : Int32}  : gc_W (gc_S d) cX11_pileAndLayer 11 0 R 144 L (.int y :: .int x :: st) μ ↔ gc_W (gc_S d) cX11_pileAndLayer 11 0 R 145 L (.int (x - y) :: st) μ := us_isub dX11_pileAndLayer_144
theorem u106_145 {d : Nat} {R : gR} {μ : gM} {l0 l1 l2 l3 l4 l5 l6 l7 l8 l9 l10 l11 l12 l14 : Value} {st : List Value} {x : Int32}  : gc_W (gc_S d) cX11_pileAndLayer 11 0 R 145 [l0, l1, l2, l3, l4, l5, l6, l7, l8, l9, l10, l11, l12, .int x, l14] st μ ↔ gc_W (gc_S d) cX11_pileAndLayer 11 0 R 147 [l0, l1, l2, l3, l4, l5, l6, l7, l8, l9, l10, l11, l12, .int x, l14] (.int x :: st) μ := us_iload dX11_pileAndLayer_145 rfl
theorem u106_147 {d : Nat} {R : gR} {μ : gM} {L : List Value} {st : List Value} {x y : Int32}  : gc_W (gc_S d) cX11_pileAndLayer 11 0 R 147 L (.int y :: .int x :: st) μ ↔ gc_W (gc_S d) cX11_pileAndLayer 11 0 R 148 L (.int (x - y) :: st) μ := us_isub dX11_pileAndLayer_147
theorem u106_148 {d : Nat} {R : gR} {μ : gM} {l0 l1 l2 l3 l4 l5 l6 l7 l8 l9 l10 l11 l12 l13 l14 : Value} {st : List Value} {x : Int32} (hs : gc_sk l13 = true) : gc_W (gc_S d) cX11_pileAndLayer 11 0 R 148 [l0, l1, l2, l3, l4, l5, l6, l7, l8, l9, l10, l11, l12, l13, l14] (.int x :: st) μ ↔ gc_W (gc_S d) cX11_pileAndLayer 11 0 R 150 [l0, l1, l2, l3, l4, l5, l6, l7, l8, l9, l10, l11, l12, .int x, l14] st μ := us_istore dX11_pileAndLayer_148 rfl hs
theorem u106_150 {d : Nat} {R : gR} {μ : gM} {L : List Value} {st : List Value}   : gc_W (gc_S d) cX11_pileAndLayer 11 0 R 150 L st μ ↔ gc_W (gc_S d) cX11_pileAndLayer 11 0 R 151 L (.int 2 :: st) μ := us_iconst dX11_pileAndLayer_150 ci_iconst_2
theorem u106_151 {d : Nat} {R : gR} {μ : gM} {l0 l1 l2 l3 l4 l5 l6 l7 l9 l10 l11 l12 l13 l14 : Value} {st : List Value} {x : Int32}  : gc_W (gc_S d) cX11_pileAndLayer 11 0 R 151 [l0, l1, l2, l3, l4, l5, l6, l7, .int x, l9, l10, l11, l12, l13, l14] st μ ↔ gc_W (gc_S d) cX11_pileAndLayer 11 0 R 153 [l0, l1, l2, l3, l4, l5, l6, l7, .int x, l9, l10, l11, l12, l13, l14] (.int x :: st) μ := us_iload dX11_pileAndLayer_151 rfl
theorem u106_153 {d : Nat} {R : gR} {μ : gM} {L : List Value} {st : List Value} {x y : Int32}  : gc_W (gc_S d) cX11_pileAndLayer 11 0 R 153 L (.int y :: .int x :: st) μ ↔ gc_W (gc_S d) cX11_pileAndLayer 11 0 R 154 L (.int (x * y) :: st) μ := us_imul dX11_pileAndLayer_153
theorem u106_154 {d : Nat} {R : gR} {μ : gM} {L : List Value} {st : List Value}   : gc_W (gc_S d) cX11_pileAndLayer 11 0 R 154 L st μ ↔ gc_W (gc_S d) cX11_pileAndLayer 11 0 R 155 L (.int 1 :: st) μ := us_iconst dX11_pileAndLayer_154 ci_iconst_1
theorem u106_155 {d : Nat} {R : gR} {μ : gM} {L : List Value} {st : List Value} {x y : Int32}  : gc_W (gc_S d) cX11_pileAndLayer 11 0 R 155 L (.int y :: .int x :: st) μ ↔ gc_W (gc_S d) cX11_pileAndLayer 11 0 R 156 L (.int (x - y) :: st) μ := us_isub dX11_pileAndLayer_155
theorem u106_156 {d : Nat} {R : gR} {μ : gM} {l0 l1 l2 l3 l4 l5 l6 l8 l9 l10 l11 l12 l13 l14 : Value} {st : List Value} {x : Int32}  : gc_W (gc_S d) cX11_pileAndLayer 11 0 R 156 [l0, l1, l2, l3, l4, l5, l6, .int x, l8, l9, l10, l11, l12, l13, l14] st μ ↔ gc_W (gc_S d) cX11_pileAndLayer 11 0 R 158 [l0, l1, l2, l3, l4, l5, l6, .int x, l8, l9, l10, l11, l12, l13, l14] (.int x :: st) μ := us_iload dX11_pileAndLayer_156 rfl
theorem u106_158 {d : Nat} {R : gR} {μ : gM} {L : List Value} {st : List Value} {x y : Int32}  : gc_W (gc_S d) cX11_pileAndLayer 11 0 R 158 L (.int y :: .int x :: st) μ ↔ gc_W (gc_S d) cX11_pileAndLayer 11 0 R 159 L (.int (x - y) :: st) μ := us_isub dX11_pileAndLayer_158
theorem u106_159 {d : Nat} {R : gR} {μ : gM} {l0 l1 l2 l3 l4 l5 l6 l7 l8 l9 l10 l11 l12 l13 l14 : Value} {st : List Value} {x : Int32} (hs : gc_sk l7 = true) : gc_W (gc_S d) cX11_pileAndLayer 11 0 R 159 [l0, l1, l2, l3, l4, l5, l6, l7, l8, l9, l10, l11, l12, l13, l14] (.int x :: st) μ ↔ gc_W (gc_S d) cX11_pileAndLayer 11 0 R 161 [l0, l1, l2, l3, l4, l5, l6, .int x, l8, l9, l10, l11, l12, l13, l14] st μ := us_istore dX11_pileAndLayer_159 rfl hs
theorem u106_161 {d : Nat} {R : gR} {μ : gM} {l0 l1 l2 l3 l4 l5 l6 l7 l8 l9 l10 l11 l12 l14 : Value} {st : List Value} {x : Int32}  : gc_W (gc_S d) cX11_pileAndLayer 11 0 R 161 [l0, l1, l2, l3, l4, l5, l6, l7, l8, l9, l10, l11, l12, .int x, l14] st μ ↔ gc_W (gc_S d) cX11_pileAndLayer 11 0 R 163 [l0, l1, l2, l3, l4, l5, l6, l7, l8, l9, l10, l11, l12, .int x, l14] (.int x :: st) μ := us_iload dX11_pileAndLayer_161 rfl
theorem u106_163 {d : Nat} {R : gR} {μ : gM} {l0 l1 l2 l3 l4 l5 l6 l7 l8 l9 l10 l11 l12 l13 : Value} {st : List Value} {x : Int32}  : gc_W (gc_S d) cX11_pileAndLayer 11 0 R 163 [l0, l1, l2, l3, l4, l5, l6, l7, l8, l9, l10, l11, l12, l13, .int x] st μ ↔ gc_W (gc_S d) cX11_pileAndLayer 11 0 R 165 [l0, l1, l2, l3, l4, l5, l6, l7, l8, l9, l10, l11, l12, l13, .int x] (.int x :: st) μ := us_iload dX11_pileAndLayer_163 rfl
theorem u106_165 {d : Nat} {R : gR} {μ : gM} {L : List Value} {st : List Value} {x : Int32}  : gc_W (gc_S d) cX11_pileAndLayer 11 0 R 165 L (.int x :: st) μ ↔ if x = 0 then gc_W (gc_S d) cX11_pileAndLayer 11 0 R 173 L st μ else gc_W (gc_S d) cX11_pileAndLayer 11 0 R 168 L st μ := us_ifeq dX11_pileAndLayer_165 rfl
theorem u106_168 {d : Nat} {R : gR} {μ : gM} {l0 l1 l2 l3 l4 l5 l6 l7 l8 l9 l10 l11 l13 l14 : Value} {st : List Value} {x : Int32}  : gc_W (gc_S d) cX11_pileAndLayer 11 0 R 168 [l0, l1, l2, l3, l4, l5, l6, l7, l8, l9, l10, l11, .int x, l13, l14] st μ ↔ gc_W (gc_S d) cX11_pileAndLayer 11 0 R 170 [l0, l1, l2, l3, l4, l5, l6, l7, l8, l9, l10, l11, .int x, l13, l14] (.int x :: st) μ := us_iload dX11_pileAndLayer_168 rfl
theorem u106_170 {d : Nat} {R : gR} {μ : gM} {L : List Value} {st : List Value}  : gc_W (gc_S d) cX11_pileAndLayer 11 0 R 170 L st μ ↔ gc_W (gc_S d) cX11_pileAndLayer 11 0 R 174 L st μ := us_goto dX11_pileAndLayer_170 rfl
theorem u106_173 {d : Nat} {R : gR} {μ : gM} {L : List Value} {st : List Value}   : gc_W (gc_S d) cX11_pileAndLayer 11 0 R 173 L st μ ↔ gc_W (gc_S d) cX11_pileAndLayer 11 0 R 174 L (.int 0 :: st) μ := us_iconst dX11_pileAndLayer_173 ci_iconst_0
theorem u106_174 {d : Nat} {R : gR} {μ : gM} {L : List Value} {st : List Value} {x y : Int32}  : gc_W (gc_S d) cX11_pileAndLayer 11 0 R 174 L (.int y :: .int x :: st) μ ↔ gc_W (gc_S d) cX11_pileAndLayer 11 0 R 175 L (.int (x - y) :: st) μ := us_isub dX11_pileAndLayer_174
theorem u106_175 {d : Nat} {R : gR} {μ : gM} {l0 l1 l2 l3 l4 l5 l6 l7 l8 l9 l10 l11 l12 l13 l14 : Value} {st : List Value} {x : Int32} (hs : gc_sk l13 = true) : gc_W (gc_S d) cX11_pileAndLayer 11 0 R 175 [l0, l1, l2, l3, l4, l5, l6, l7, l8, l9, l10, l11, l12, l13, l14] (.int x :: st) μ ↔ gc_W (gc_S d) cX11_pileAndLayer 11 0 R 177 [l0, l1, l2, l3, l4, l5, l6, l7, l8, l9, l10, l11, l12, .int x, l14] st μ := us_istore dX11_pileAndLayer_175 rfl hs
theorem u106_177 {d : Nat} {R : gR} {μ : gM} {l0 l1 l2 l3 l4 l5 l6 l7 l8 l9 l10 l12 l13 l14 : Value} {st : List Value} {x : Int32}  : gc_W (gc_S d) cX11_pileAndLayer 11 0 R 177 [l0, l1, l2, l3, l4, l5, l6, l7, l8, l9, l10, .int x, l12, l13, l14] st μ ↔ gc_W (gc_S d) cX11_pileAndLayer 11 0 R 179 [l0, l1, l2, l3, l4, l5, l6, l7, l8, l9, l10, .int x, l12, l13, l14] (.int x :: st) μ := us_iload dX11_pileAndLayer_177 rfl
theorem u106_179 {d : Nat} {R : gR} {μ : gM} {L : List Value} {st : List Value} {x : Int32}  : gc_W (gc_S d) cX11_pileAndLayer 11 0 R 179 L (.int x :: st) μ ↔ if x = 0 then gc_W (gc_S d) cX11_pileAndLayer 11 0 R 187 L st μ else gc_W (gc_S d) cX11_pileAndLayer 11 0 R 182 L st μ := us_ifeq dX11_pileAndLayer_179 rfl
theorem u106_182 {d : Nat} {R : gR} {μ : gM} {l0 l1 l2 l3 l4 l5 l6 l7 l8 l9 l10 l11 l12 l14 : Value} {st : List Value} {x : Int32}  : gc_W (gc_S d) cX11_pileAndLayer 11 0 R 182 [l0, l1, l2, l3, l4, l5, l6, l7, l8, l9, l10, l11, l12, .int x, l14] st μ ↔ gc_W (gc_S d) cX11_pileAndLayer 11 0 R 184 [l0, l1, l2, l3, l4, l5, l6, l7, l8, l9, l10, l11, l12, .int x, l14] (.int x :: st) μ := us_iload dX11_pileAndLayer_182 rfl
theorem u106_184 {d : Nat} {R : gR} {μ : gM} {L : List Value} {st : List Value}  : gc_W (gc_S d) cX11_pileAndLayer 11 0 R 184 L st μ ↔ gc_W (gc_S d) cX11_pileAndLayer 11 0 R 189 L st μ := us_goto dX11_pileAndLayer_184 rfl
theorem u106_187 {d : Nat} {R : gR} {μ : gM} {l0 l1 l2 l3 l4 l6 l7 l8 l9 l10 l11 l12 l13 l14 : Value} {st : List Value} {x : Int32}  : gc_W (gc_S d) cX11_pileAndLayer 11 0 R 187 [l0, l1, l2, l3, l4, .int x, l6, l7, l8, l9, l10, l11, l12, l13, l14] st μ ↔ gc_W (gc_S d) cX11_pileAndLayer 11 0 R 189 [l0, l1, l2, l3, l4, .int x, l6, l7, l8, l9, l10, l11, l12, l13, l14] (.int x :: st) μ := us_iload dX11_pileAndLayer_187 rfl
theorem u106_189 {d : Nat} {R : gR} {μ : gM} {l0 l1 l2 l3 l4 l5 l6 l7 l8 l9 l10 l11 l12 l13 l14 : Value} {st : List Value} {x : Int32} (hs : gc_sk l5 = true) : gc_W (gc_S d) cX11_pileAndLayer 11 0 R 189 [l0, l1, l2, l3, l4, l5, l6, l7, l8, l9, l10, l11, l12, l13, l14] (.int x :: st) μ ↔ gc_W (gc_S d) cX11_pileAndLayer 11 0 R 191 [l0, l1, l2, l3, l4, .int x, l6, l7, l8, l9, l10, l11, l12, l13, l14] st μ := us_istore dX11_pileAndLayer_189 rfl hs
theorem u106_191 {d : Nat} {R : gR} {μ : gM} {l0 l1 l2 l3 l4 l5 l6 l7 l8 l9 l10 l12 l13 l14 : Value} {st : List Value} {x : Int32}  : gc_W (gc_S d) cX11_pileAndLayer 11 0 R 191 [l0, l1, l2, l3, l4, l5, l6, l7, l8, l9, l10, .int x, l12, l13, l14] st μ ↔ gc_W (gc_S d) cX11_pileAndLayer 11 0 R 193 [l0, l1, l2, l3, l4, l5, l6, l7, l8, l9, l10, .int x, l12, l13, l14] (.int x :: st) μ := us_iload dX11_pileAndLayer_191 rfl
theorem u106_193 {d : Nat} {R : gR} {μ : gM} {L : List Value} {st : List Value} {x : Int32}  : gc_W (gc_S d) cX11_pileAndLayer 11 0 R 193 L (.int x :: st) μ ↔ if x = 0 then gc_W (gc_S d) cX11_pileAndLayer 11 0 R 201 L st μ else gc_W (gc_S d) cX11_pileAndLayer 11 0 R 196 L st μ := us_ifeq dX11_pileAndLayer_193 rfl
theorem u106_196 {d : Nat} {R : gR} {μ : gM} {l0 l1 l2 l3 l4 l5 l7 l8 l9 l10 l11 l12 l13 l14 : Value} {st : List Value} {x : Int32}  : gc_W (gc_S d) cX11_pileAndLayer 11 0 R 196 [l0, l1, l2, l3, l4, l5, .int x, l7, l8, l9, l10, l11, l12, l13, l14] st μ ↔ gc_W (gc_S d) cX11_pileAndLayer 11 0 R 198 [l0, l1, l2, l3, l4, l5, .int x, l7, l8, l9, l10, l11, l12, l13, l14] (.int x :: st) μ := us_iload dX11_pileAndLayer_196 rfl
theorem u106_198 {d : Nat} {R : gR} {μ : gM} {L : List Value} {st : List Value}  : gc_W (gc_S d) cX11_pileAndLayer 11 0 R 198 L st μ ↔ gc_W (gc_S d) cX11_pileAndLayer 11 0 R 203 L st μ := us_goto dX11_pileAndLayer_198 rfl
theorem u106_201 {d : Nat} {R : gR} {μ : gM} {l0 l1 l2 l3 l4 l5 l6 l7 l8 l9 l10 l11 l12 l14 : Value} {st : List Value} {x : Int32}  : gc_W (gc_S d) cX11_pileAndLayer 11 0 R 201 [l0, l1, l2, l3, l4, l5, l6, l7, l8, l9, l10, l11, l12, .int x, l14] st μ ↔ gc_W (gc_S d) cX11_pileAndLayer 11 0 R 203 [l0, l1, l2, l3, l4, l5, l6, l7, l8, l9, l10, l11, l12, .int x, l14] (.int x :: st) μ := us_iload dX11_pileAndLayer_201 rfl
theorem u106_203 {d : Nat} {R : gR} {μ : gM} {l0 l1 l2 l3 l4 l5 l6 l7 l8 l9 l10 l11 l12 l13 l14 : Value} {st : List Value} {x : Int32} (hs : gc_sk l6 = true) : gc_W (gc_S d) cX11_pileAndLayer 11 0 R 203 [l0, l1, l2, l3, l4, l5, l6, l7, l8, l9, l10, l11, l12, l13, l14] (.int x :: st) μ ↔ gc_W (gc_S d) cX11_pileAndLayer 11 0 R 205 [l0, l1, l2, l3, l4, l5, .int x, l7, l8, l9, l10, l11, l12, l13, l14] st μ := us_istore dX11_pileAndLayer_203 rfl hs
theorem u106_205 {d : Nat} {R : gR} {μ : gM} {l0 l1 l2 l3 l4 l5 l6 l7 l8 l9 l10 l12 l13 l14 : Value} {st : List Value} {x : Int32}  : gc_W (gc_S d) cX11_pileAndLayer 11 0 R 205 [l0, l1, l2, l3, l4, l5, l6, l7, l8, l9, l10, .int x, l12, l13, l14] st μ ↔ gc_W (gc_S d) cX11_pileAndLayer 11 0 R 207 [l0, l1, l2, l3, l4, l5, l6, l7, l8, l9, l10, .int x, l12, l13, l14] (.int x :: st) μ := us_iload dX11_pileAndLayer_205 rfl
theorem u106_207 {d : Nat} {R : gR} {μ : gM} {L : List Value} {st : List Value} {x : Int32}  : gc_W (gc_S d) cX11_pileAndLayer 11 0 R 207 L (.int x :: st) μ ↔ if x = 0 then gc_W (gc_S d) cX11_pileAndLayer 11 0 R 215 L st μ else gc_W (gc_S d) cX11_pileAndLayer 11 0 R 210 L st μ := us_ifeq dX11_pileAndLayer_207 rfl
theorem u106_210 {d : Nat} {R : gR} {μ : gM} {l0 l1 l2 l3 l4 l5 l6 l7 l8 l9 l10 l11 l13 l14 : Value} {st : List Value} {x : Int32}  : gc_W (gc_S d) cX11_pileAndLayer 11 0 R 210 [l0, l1, l2, l3, l4, l5, l6, l7, l8, l9, l10, l11, .int x, l13, l14] st μ ↔ gc_W (gc_S d) cX11_pileAndLayer 11 0 R 212 [l0, l1, l2, l3, l4, l5, l6, l7, l8, l9, l10, l11, .int x, l13, l14] (.int x :: st) μ := us_iload dX11_pileAndLayer_210 rfl
theorem u106_212 {d : Nat} {R : gR} {μ : gM} {L : List Value} {st : List Value}  : gc_W (gc_S d) cX11_pileAndLayer 11 0 R 212 L st μ ↔ gc_W (gc_S d) cX11_pileAndLayer 11 0 R 216 L st μ := us_goto dX11_pileAndLayer_212 rfl
theorem u106_215 {d : Nat} {R : gR} {μ : gM} {l0 l1 l2 l4 l5 l6 l7 l8 l9 l10 l11 l12 l13 l14 : Value} {st : List Value} {x : Int32}  : gc_W (gc_S d) cX11_pileAndLayer 11 0 R 215 [l0, l1, l2, .int x, l4, l5, l6, l7, l8, l9, l10, l11, l12, l13, l14] st μ ↔ gc_W (gc_S d) cX11_pileAndLayer 11 0 R 216 [l0, l1, l2, .int x, l4, l5, l6, l7, l8, l9, l10, l11, l12, l13, l14] (.int x :: st) μ := us_iload_n dX11_pileAndLayer_215 rfl
theorem u106_216 {d : Nat} {R : gR} {μ : gM} {l0 l1 l2 l3 l4 l5 l6 l7 l8 l9 l10 l11 l12 l13 l14 : Value} {st : List Value} {x : Int32} (hs : gc_sk l3 = true) : gc_W (gc_S d) cX11_pileAndLayer 11 0 R 216 [l0, l1, l2, l3, l4, l5, l6, l7, l8, l9, l10, l11, l12, l13, l14] (.int x :: st) μ ↔ gc_W (gc_S d) cX11_pileAndLayer 11 0 R 217 [l0, l1, l2, .int x, l4, l5, l6, l7, l8, l9, l10, l11, l12, l13, l14] st μ := us_istore_n dX11_pileAndLayer_216 rfl hs
theorem u106_217 {d : Nat} {R : gR} {μ : gM} {l0 l1 l2 l3 l4 l5 l6 l7 l8 l9 l10 l12 l13 l14 : Value} {st : List Value} {x : Int32}  : gc_W (gc_S d) cX11_pileAndLayer 11 0 R 217 [l0, l1, l2, l3, l4, l5, l6, l7, l8, l9, l10, .int x, l12, l13, l14] st μ ↔ gc_W (gc_S d) cX11_pileAndLayer 11 0 R 219 [l0, l1, l2, l3, l4, l5, l6, l7, l8, l9, l10, .int x, l12, l13, l14] (.int x :: st) μ := us_iload dX11_pileAndLayer_217 rfl
theorem u106_219 {d : Nat} {R : gR} {μ : gM} {L : List Value} {st : List Value} {x : Int32}  : gc_W (gc_S d) cX11_pileAndLayer 11 0 R 219 L (.int x :: st) μ ↔ if x = 0 then gc_W (gc_S d) cX11_pileAndLayer 11 0 R 227 L st μ else gc_W (gc_S d) cX11_pileAndLayer 11 0 R 222 L st μ := us_ifeq dX11_pileAndLayer_219 rfl
theorem u106_222 {d : Nat} {R : gR} {μ : gM} {l0 l1 l2 l3 l5 l6 l7 l8 l9 l10 l11 l12 l13 l14 : Value} {st : List Value} {x : Int32}  : gc_W (gc_S d) cX11_pileAndLayer 11 0 R 222 [l0, l1, l2, l3, .int x, l5, l6, l7, l8, l9, l10, l11, l12, l13, l14] st μ ↔ gc_W (gc_S d) cX11_pileAndLayer 11 0 R 224 [l0, l1, l2, l3, .int x, l5, l6, l7, l8, l9, l10, l11, l12, l13, l14] (.int x :: st) μ := us_iload dX11_pileAndLayer_222 rfl
theorem u106_224 {d : Nat} {R : gR} {μ : gM} {L : List Value} {st : List Value}  : gc_W (gc_S d) cX11_pileAndLayer 11 0 R 224 L st μ ↔ gc_W (gc_S d) cX11_pileAndLayer 11 0 R 229 L st μ := us_goto dX11_pileAndLayer_224 rfl
theorem u106_227 {d : Nat} {R : gR} {μ : gM} {l0 l1 l2 l3 l4 l5 l6 l7 l8 l9 l10 l11 l13 l14 : Value} {st : List Value} {x : Int32}  : gc_W (gc_S d) cX11_pileAndLayer 11 0 R 227 [l0, l1, l2, l3, l4, l5, l6, l7, l8, l9, l10, l11, .int x, l13, l14] st μ ↔ gc_W (gc_S d) cX11_pileAndLayer 11 0 R 229 [l0, l1, l2, l3, l4, l5, l6, l7, l8, l9, l10, l11, .int x, l13, l14] (.int x :: st) μ := us_iload dX11_pileAndLayer_227 rfl
theorem u106_229 {d : Nat} {R : gR} {μ : gM} {l0 l1 l2 l3 l4 l5 l6 l7 l8 l9 l10 l11 l12 l13 l14 : Value} {st : List Value} {x : Int32} (hs : gc_sk l4 = true) : gc_W (gc_S d) cX11_pileAndLayer 11 0 R 229 [l0, l1, l2, l3, l4, l5, l6, l7, l8, l9, l10, l11, l12, l13, l14] (.int x :: st) μ ↔ gc_W (gc_S d) cX11_pileAndLayer 11 0 R 231 [l0, l1, l2, l3, .int x, l5, l6, l7, l8, l9, l10, l11, l12, l13, l14] st μ := us_istore dX11_pileAndLayer_229 rfl hs
theorem u106_231 {d : Nat} {R : gR} {μ : gM} {l0 l1 l2 l3 l4 l5 l6 l7 l9 l10 l11 l12 l13 l14 : Value} {st : List Value} {x : Int32}  : gc_W (gc_S d) cX11_pileAndLayer 11 0 R 231 [l0, l1, l2, l3, l4, l5, l6, l7, .int x, l9, l10, l11, l12, l13, l14] st μ ↔ gc_W (gc_S d) cX11_pileAndLayer 11 0 R 233 [l0, l1, l2, l3, l4, l5, l6, l7, .int x, l9, l10, l11, l12, l13, l14] (.int x :: st) μ := us_iload dX11_pileAndLayer_231 rfl
theorem u106_233 {d : Nat} {R : gR} {μ : gM} {L : List Value} {st : List Value}   : gc_W (gc_S d) cX11_pileAndLayer 11 0 R 233 L st μ ↔ gc_W (gc_S d) cX11_pileAndLayer 11 0 R 234 L (.int 2 :: st) μ := us_iconst dX11_pileAndLayer_233 ci_iconst_2
theorem u106_234 {d : Nat} {R : gR} {μ : gM} {L : List Value} {st : List Value} {x y : Int32}  : gc_W (gc_S d) cX11_pileAndLayer 11 0 R 234 L (.int y :: .int x :: st) μ ↔ gc_W (gc_S d) cX11_pileAndLayer 11 0 R 235 L (.int (x * y) :: st) μ := us_imul dX11_pileAndLayer_234
theorem u106_235 {d : Nat} {R : gR} {μ : gM} {l0 l1 l2 l3 l4 l5 l6 l7 l8 l9 l10 l11 l12 l13 l14 : Value} {st : List Value} {x : Int32} (hs : gc_sk l8 = true) : gc_W (gc_S d) cX11_pileAndLayer 11 0 R 235 [l0, l1, l2, l3, l4, l5, l6, l7, l8, l9, l10, l11, l12, l13, l14] (.int x :: st) μ ↔ gc_W (gc_S d) cX11_pileAndLayer 11 0 R 237 [l0, l1, l2, l3, l4, l5, l6, l7, .int x, l9, l10, l11, l12, l13, l14] st μ := us_istore dX11_pileAndLayer_235 rfl hs
theorem u106_237 {d : Nat} {R : gR} {μ : gM} {l0 l1 l2 l3 l4 l5 l6 l7 l8 l10 l11 l12 l13 l14 : Value} {st : List Value} {x : Int32}  : gc_W (gc_S d) cX11_pileAndLayer 11 0 R 237 [l0, l1, l2, l3, l4, l5, l6, l7, l8, .int x, l10, l11, l12, l13, l14] st μ ↔ gc_W (gc_S d) cX11_pileAndLayer 11 0 R 239 [l0, l1, l2, l3, l4, l5, l6, l7, l8, .int x, l10, l11, l12, l13, l14] (.int x :: st) μ := us_iload dX11_pileAndLayer_237 rfl
theorem u106_239 {d : Nat} {R : gR} {μ : gM} {L : List Value} {st : List Value}   : gc_W (gc_S d) cX11_pileAndLayer 11 0 R 239 L st μ ↔ gc_W (gc_S d) cX11_pileAndLayer 11 0 R 241 L (.int 10 :: st) μ := us_bipush dX11_pileAndLayer_239 ci_bipush_10
theorem u106_241 {d : Nat} {R : gR} {μ : gM} {L : List Value} {st : List Value} {x y : Int32}  : gc_W (gc_S d) cX11_pileAndLayer 11 0 R 241 L (.int y :: .int x :: st) μ ↔ (¬ y = 0 ∧ gc_W (gc_S d) cX11_pileAndLayer 11 0 R 242 L (.int (x / y) :: st) μ) := us_idiv dX11_pileAndLayer_241
theorem u106_242 {d : Nat} {R : gR} {μ : gM} {l0 l1 l2 l3 l4 l5 l6 l7 l8 l9 l10 l11 l12 l13 l14 : Value} {st : List Value} {x : Int32} (hs : gc_sk l9 = true) : gc_W (gc_S d) cX11_pileAndLayer 11 0 R 242 [l0, l1, l2, l3, l4, l5, l6, l7, l8, l9, l10, l11, l12, l13, l14] (.int x :: st) μ ↔ gc_W (gc_S d) cX11_pileAndLayer 11 0 R 244 [l0, l1, l2, l3, l4, l5, l6, l7, l8, .int x, l10, l11, l12, l13, l14] st μ := us_istore dX11_pileAndLayer_242 rfl hs
theorem u106_244 {d : Nat} {R : gR} {μ : gM} {L : List Value} {st : List Value}  : gc_W (gc_S d) cX11_pileAndLayer 11 0 R 244 L st μ ↔ gc_W (gc_S d) cX11_pileAndLayer 11 0 R 32 L st μ := us_goto dX11_pileAndLayer_244 rfl
theorem u106_247 {d : Nat} {R : gR} {μ : gM} {l0 l1 l3 l4 l5 l6 l7 l8 l9 l10 l11 l12 l13 l14 : Value} {st : List Value} {x : Int32}  : gc_W (gc_S d) cX11_pileAndLayer 11 0 R 247 [l0, l1, .int x, l3, l4, l5, l6, l7, l8, l9, l10, l11, l12, l13, l14] st μ ↔ gc_W (gc_S d) cX11_pileAndLayer 11 0 R 248 [l0, l1, .int x, l3, l4, l5, l6, l7, l8, l9, l10, l11, l12, l13, l14] (.int x :: st) μ := us_iload_n dX11_pileAndLayer_247 rfl
theorem u106_248 {d : Nat} {R : gR} {μ : gM} {L : List Value} {st : List Value} {x : Int32}  : gc_W (gc_S d) cX11_pileAndLayer 11 0 R 248 L (.int x :: st) μ ↔ if x = 0 then gc_W (gc_S d) cX11_pileAndLayer 11 0 R 251 L st μ else gc_W (gc_S d) cX11_pileAndLayer 11 0 R 255 L st μ := us_ifne dX11_pileAndLayer_248 rfl
theorem u106_251 {d : Nat} {R : gR} {μ : gM} {L : List Value} {st : List Value}   : gc_W (gc_S d) cX11_pileAndLayer 11 0 R 251 L st μ ↔ gc_W (gc_S d) cX11_pileAndLayer 11 0 R 252 L (.int (-1) :: st) μ := us_iconst dX11_pileAndLayer_251 ci_iconst_m1
theorem u106_252 {d : Nat} {R : gR} {μ : gM} {L : List Value} {st : List Value}  : gc_W (gc_S d) cX11_pileAndLayer 11 0 R 252 L st μ ↔ gc_W (gc_S d) cX11_pileAndLayer 11 0 R 268 L st μ := us_goto dX11_pileAndLayer_252 rfl
theorem u106_255 {d : Nat} {R : gR} {μ : gM} {l0 l1 l2 l3 l4 l5 l7 l8 l9 l10 l11 l12 l13 l14 : Value} {st : List Value} {x : Int32}  : gc_W (gc_S d) cX11_pileAndLayer 11 0 R 255 [l0, l1, l2, l3, l4, l5, .int x, l7, l8, l9, l10, l11, l12, l13, l14] st μ ↔ gc_W (gc_S d) cX11_pileAndLayer 11 0 R 257 [l0, l1, l2, l3, l4, l5, .int x, l7, l8, l9, l10, l11, l12, l13, l14] (.int x :: st) μ := us_iload dX11_pileAndLayer_255 rfl
theorem u106_257 {d : Nat} {R : gR} {μ : gM} {l0 l1 l2 l4 l5 l6 l7 l8 l9 l10 l11 l12 l13 l14 : Value} {st : List Value} {x : Int32}  : gc_W (gc_S d) cX11_pileAndLayer 11 0 R 257 [l0, l1, l2, .int x, l4, l5, l6, l7, l8, l9, l10, l11, l12, l13, l14] st μ ↔ gc_W (gc_S d) cX11_pileAndLayer 11 0 R 258 [l0, l1, l2, .int x, l4, l5, l6, l7, l8, l9, l10, l11, l12, l13, l14] (.int x :: st) μ := us_iload_n dX11_pileAndLayer_257 rfl
theorem u106_258 {d : Nat} {R : gR} {μ : gM} {L : List Value} {st : List Value} {x y : Int32}  : gc_W (gc_S d) cX11_pileAndLayer 11 0 R 258 L (.int y :: .int x :: st) μ ↔ gc_W (gc_S d) cX11_pileAndLayer 11 0 R 259 L (.int (x * y) :: st) μ := us_imul dX11_pileAndLayer_258
theorem u106_259 {d : Nat} {R : gR} {μ : gM} {l0 l1 l2 l3 l4 l6 l7 l8 l9 l10 l11 l12 l13 l14 : Value} {st : List Value} {x : Int32}  : gc_W (gc_S d) cX11_pileAndLayer 11 0 R 259 [l0, l1, l2, l3, l4, .int x, l6, l7, l8, l9, l10, l11, l12, l13, l14] st μ ↔ gc_W (gc_S d) cX11_pileAndLayer 11 0 R 261 [l0, l1, l2, l3, l4, .int x, l6, l7, l8, l9, l10, l11, l12, l13, l14] (.int x :: st) μ := us_iload dX11_pileAndLayer_259 rfl
theorem u106_261 {d : Nat} {R : gR} {μ : gM} {L : List Value} {st : List Value} {x y : Int32}  : gc_W (gc_S d) cX11_pileAndLayer 11 0 R 261 L (.int y :: .int x :: st) μ ↔ gc_W (gc_S d) cX11_pileAndLayer 11 0 R 262 L (.int (x + y) :: st) μ := us_iadd dX11_pileAndLayer_261
theorem u106_262 {d : Nat} {R : gR} {μ : gM} {L : List Value} {st : List Value}   : gc_W (gc_S d) cX11_pileAndLayer 11 0 R 262 L st μ ↔ gc_W (gc_S d) cX11_pileAndLayer 11 0 R 264 L (.int 16 :: st) μ := us_bipush dX11_pileAndLayer_262 ci_bipush_16
theorem u106_264 {d : Nat} {R : gR} {μ : gM} {L : List Value} {st : List Value} {x y : Int32}  : gc_W (gc_S d) cX11_pileAndLayer 11 0 R 264 L (.int y :: .int x :: st) μ ↔ gc_W (gc_S d) cX11_pileAndLayer 11 0 R 265 L (.int (x * y) :: st) μ := us_imul dX11_pileAndLayer_264
theorem u106_265 {d : Nat} {R : gR} {μ : gM} {l0 l1 l2 l3 l4 l5 l6 l8 l9 l10 l11 l12 l13 l14 : Value} {st : List Value} {x : Int32}  : gc_W (gc_S d) cX11_pileAndLayer 11 0 R 265 [l0, l1, l2, l3, l4, l5, l6, .int x, l8, l9, l10, l11, l12, l13, l14] st μ ↔ gc_W (gc_S d) cX11_pileAndLayer 11 0 R 267 [l0, l1, l2, l3, l4, l5, l6, .int x, l8, l9, l10, l11, l12, l13, l14] (.int x :: st) μ := us_iload dX11_pileAndLayer_265 rfl
theorem u106_267 {d : Nat} {R : gR} {μ : gM} {L : List Value} {st : List Value} {x y : Int32}  : gc_W (gc_S d) cX11_pileAndLayer 11 0 R 267 L (.int y :: .int x :: st) μ ↔ gc_W (gc_S d) cX11_pileAndLayer 11 0 R 268 L (.int (x + y) :: st) μ := us_iadd dX11_pileAndLayer_267
theorem u106_268 {d : Nat} {R : gR} {μ : gM} {L : List Value} {v : Int32}  : gc_W (gc_S d) cX11_pileAndLayer 11 0 R 268 L [.int v] μ ↔ R (some (.int v)) μ := us_iret dX11_pileAndLayer_268 rfl
theorem s106 {d : Nat} {R : gR} {μ : gM} {a0 a1 : Int32} : gc_S (d + 1) 106 [.int a0, .int a1] μ R ↔ gc_W (gc_S d) cX11_pileAndLayer 11 0 R 0 [.int a0, .int a1, .retAddr 0, .retAddr 0, .retAddr 0, .retAddr 0, .retAddr 0, .retAddr 0, .retAddr 0, .retAddr 0, .retAddr 0, .retAddr 0, .retAddr 0, .retAddr 0, .retAddr 0] [] μ := us_call (gm_106) rfl rfl
theorem dX11_folded_0 : decode cX11_folded 0 = .ok (.iload_n 2, 1) := by decide +kernel
theorem dX11_folded_1 : decode cX11_folded 1 = .ok (.invokestatic 80, 3) := by decide +kernel
theorem dX11_folded_4 : decode cX11_folded 4 = .ok (.ifCond .eq 11, 3) := by decide +kernel
theorem dX11_folded_7 : decode cX11_folded 7 = .ok (.iconst 1, 1) := by decide +kernel
theorem dX11_folded_8 : decode cX11_folded 8 = .ok (.iload_n 3, 1) := by decide +kernel
theorem dX11_folded_9 : decode cX11_folded 9 = .ok (.invokestatic 84, 3) := by decide +kernel
theorem dX11_folded_12 : decode cX11_folded 12 = .ok (.ifCond .ne 9, 3) := by decide +kernel
theorem dX11_folded_15 : decode cX11_folded 15 = .ok (.aload_n 0, 1) := by decide +kernel
theorem dX11_folded_16 : decode cX11_folded 16 = .ok (.iconst 1, 1) := by decide +kernel
theorem dX11_folded_17 : decode cX11_folded 17 = .ok (.invokevirtual 88, 3) := by decide +kernel
theorem dX11_folded_20 : decode cX11_folded 20 = .ok (.ireturn, 1) := by decide +kernel
theorem dX11_folded_21 : decode cX11_folded 21 = .ok (.iload_n 1, 1) := by decide +kernel
theorem dX11_folded_22 : decode cX11_folded 22 = .ok (.iload_n 2, 1) := by decide +kernel
theorem dX11_folded_23 : decode cX11_folded 23 = .ok (.invokestatic 214, 3) := by decide +kernel
theorem dX11_folded_26 : decode cX11_folded 26 = .ok (.istore 4, 2) := by decide +kernel
theorem dX11_folded_28 : decode cX11_folded 28 = .ok (.iload 4, 2) := by decide +kernel
theorem dX11_folded_30 : decode cX11_folded 30 = .ok (.ifCond .ge 9, 3) := by decide +kernel
theorem dX11_folded_33 : decode cX11_folded 33 = .ok (.aload_n 0, 1) := by decide +kernel
theorem dX11_folded_34 : decode cX11_folded 34 = .ok (.iconst 1, 1) := by decide +kernel
theorem dX11_folded_35 : decode cX11_folded 35 = .ok (.invokevirtual 88, 3) := by decide +kernel
theorem dX11_folded_38 : decode cX11_folded 38 = .ok (.ireturn, 1) := by decide +kernel
theorem dX11_folded_39 : decode cX11_folded 39 = .ok (.iload_n 3, 1) := by decide +kernel
theorem dX11_folded_40 : decode cX11_folded 40 = .ok (.ifCond .ne 11, 3) := by decide +kernel
theorem dX11_folded_43 : decode cX11_folded 43 = .ok (.iload 4, 2) := by decide +kernel
theorem dX11_folded_45 : decode cX11_folded 45 = .ok (.bipush 16, 2) := by decide +kernel
theorem dX11_folded_47 : decode cX11_folded 47 = .ok (.idiv, 1) := by decide +kernel
theorem dX11_folded_48 : decode cX11_folded 48 = .ok (.goto 8, 3) := by decide +kernel
theorem dX11_folded_51 : decode cX11_folded 51 = .ok (.iload 4, 2) := by decide +kernel
theorem dX11_folded_53 : decode cX11_folded 53 = .ok (.bipush 16, 2) := by decide +kernel
theorem dX11_folded_55 : decode cX11_folded 55 = .ok (.irem, 1) := by decide +kernel
theorem dX11_folded_56 : decode cX11_folded 56 = .ok (.ireturn, 1) := by decide +kernel
theorem u107_0 {d : Nat} {R : gR} {μ : gM} {l0 l1 l3 l4 : Value} {st : List Value} {x : Int32}  : gc_W (gc_S d) cX11_folded 11 0 R 0 [l0, l1, .int x, l3, l4] st μ ↔ gc_W (gc_S d) cX11_folded 11 0 R 1 [l0, l1, .int x, l3, l4] (.int x :: st) μ := us_iload_n dX11_folded_0 rfl
theorem u107_1 {d : Nat} {R : gR} {μ : gM} {L : List Value}  {a0 : Int32}  : gc_W (gc_S d) cX11_folded 11 0 R 1 L [.int a0] μ ↔ gc_S d 74 [.int a0] μ (fun v μ' => gc_W (gc_S d) cX11_folded 11 0 R 4 L (v.toList ++ []) μ') := us_stat dX11_folded_1 gs_11_80 gne_11_80 gn_11_80 gc_11_80_97 rfl rfl rfl rfl
theorem u107_4 {d : Nat} {R : gR} {μ : gM} {L : List Value} {st : List Value} {x : Int32}  : gc_W (gc_S d) cX11_folded 11 0 R 4 L (.int x :: st) μ ↔ if x = 0 then gc_W (gc_S d) cX11_folded 11 0 R 15 L st μ else gc_W (gc_S d) cX11_folded 11 0 R 7 L st μ := us_ifeq dX11_folded_4 rfl
theorem u107_7 {d : Nat} {R : gR} {μ : gM} {L : List Value} {st : List Value}   : gc_W (gc_S d) cX11_folded 11 0 R 7 L st μ ↔ gc_W (gc_S d) cX11_folded 11 0 R 8 L (.int 1 :: st) μ := us_iconst dX11_folded_7 ci_iconst_1
theorem u107_8 {d : Nat} {R : gR} {μ : gM} {l0 l1 l2 l4 : Value} {st : List Value} {x : Int32}  : gc_W (gc_S d) cX11_folded 11 0 R 8 [l0, l1, l2, .int x, l4] st μ ↔ gc_W (gc_S d) cX11_folded 11 0 R 9 [l0, l1, l2, .int x, l4] (.int x :: st) μ := us_iload_n dX11_folded_8 rfl
theorem u107_9 {d : Nat} {R : gR} {μ : gM} {L : List Value}  {a0 a1 : Int32}  : gc_W (gc_S d) cX11_folded 11 0 R 9 L [.int a1, .int a0] μ ↔ gc_S d 73 [.int a0, .int a1] μ (fun v μ' => gc_W (gc_S d) cX11_folded 11 0 R 12 L (v.toList ++ []) μ') := us_stat dX11_folded_9 gs_11_84 gne_11_84 gn_11_84 gc_11_84_97 rfl rfl rfl rfl
theorem u107_12 {d : Nat} {R : gR} {μ : gM} {L : List Value} {st : List Value} {x : Int32}  : gc_W (gc_S d) cX11_folded 11 0 R 12 L (.int x :: st) μ ↔ if x = 0 then gc_W (gc_S d) cX11_folded 11 0 R 15 L st μ else gc_W (gc_S d) cX11_folded 11 0 R 21 L st μ := us_ifne dX11_folded_12 rfl
theorem u107_15 {d : Nat} {R : gR} {μ : gM} {l1 l2 l3 l4 : Value} {st : List Value} {x : Nat}  : gc_W (gc_S d) cX11_folded 11 0 R 15 [.ref x, l1, l2, l3, l4] st μ ↔ gc_W (gc_S d) cX11_folded 11 0 R 16 [.ref x, l1, l2, l3, l4] (.ref x :: st) μ := us_aload_n dX11_folded_15 rfl
theorem u107_16 {d : Nat} {R : gR} {μ : gM} {L : List Value} {st : List Value}   : gc_W (gc_S d) cX11_folded 11 0 R 16 L st μ ↔ gc_W (gc_S d) cX11_folded 11 0 R 17 L (.int 1 :: st) μ := us_iconst dX11_folded_16 ci_iconst_1
theorem u107_17 {d : Nat} {R : gR} {μ : gM} {L : List Value} {o : Nat} {a0 : Int32} (hk : gc_kd o = 11) : gc_W (gc_S d) cX11_folded 11 0 R 17 L [.int a0, .ref o] μ ↔ gc_S d 75 [.ref o, .int a0] μ (fun v μ' => gc_W (gc_S d) cX11_folded 11 0 R 20 L (v.toList ++ []) μ') := us_virt dX11_folded_17 gn_11_88 gc_11_88_11 hk rfl rfl rfl rfl rfl
theorem u107_20 {d : Nat} {R : gR} {μ : gM} {L : List Value} {v : Int32}  : gc_W (gc_S d) cX11_folded 11 0 R 20 L [.int v] μ ↔ R (some (.int v)) μ := us_iret dX11_folded_20 rfl
theorem u107_21 {d : Nat} {R : gR} {μ : gM} {l0 l2 l3 l4 : Value} {st : List Value} {x : Int32}  : gc_W (gc_S d) cX11_folded 11 0 R 21 [l0, .int x, l2, l3, l4] st μ ↔ gc_W (gc_S d) cX11_folded 11 0 R 22 [l0, .int x, l2, l3, l4] (.int x :: st) μ := us_iload_n dX11_folded_21 rfl
theorem u107_22 {d : Nat} {R : gR} {μ : gM} {l0 l1 l3 l4 : Value} {st : List Value} {x : Int32}  : gc_W (gc_S d) cX11_folded 11 0 R 22 [l0, l1, .int x, l3, l4] st μ ↔ gc_W (gc_S d) cX11_folded 11 0 R 23 [l0, l1, .int x, l3, l4] (.int x :: st) μ := us_iload_n dX11_folded_22 rfl
theorem u107_23 {d : Nat} {R : gR} {μ : gM} {L : List Value}  {a0 a1 : Int32}  : gc_W (gc_S d) cX11_folded 11 0 R 23 L [.int a1, .int a0] μ ↔ gc_S d 106 [.int a0, .int a1] μ (fun v μ' => gc_W (gc_S d) cX11_folded 11 0 R 26 L (v.toList ++ []) μ') := us_stat dX11_folded_23 gs_11_214 gne_11_214 gn_11_214 gc_11_214_97 rfl rfl rfl rfl
theorem u107_26 {d : Nat} {R : gR} {μ : gM} {l0 l1 l2 l3 l4 : Value} {st : List Value} {x : Int32} (hs : gc_sk l4 = true) : gc_W (gc_S d) cX11_folded 11 0 R 26 [l0, l1, l2, l3, l4] (.int x :: st) μ ↔ gc_W (gc_S d) cX11_folded 11 0 R 28 [l0, l1, l2, l3, .int x] st μ := us_istore dX11_folded_26 rfl hs
theorem u107_28 {d : Nat} {R : gR} {μ : gM} {l0 l1 l2 l3 : Value} {st : List Value} {x : Int32}  : gc_W (gc_S d) cX11_folded 11 0 R 28 [l0, l1, l2, l3, .int x] st μ ↔ gc_W (gc_S d) cX11_folded 11 0 R 30 [l0, l1, l2, l3, .int x] (.int x :: st) μ := us_iload dX11_folded_28 rfl
theorem u107_30 {d : Nat} {R : gR} {μ : gM} {L : List Value} {st : List Value} {x : Int32}  : gc_W (gc_S d) cX11_folded 11 0 R 30 L (.int x :: st) μ ↔ if 0 ≤ x then gc_W (gc_S d) cX11_folded 11 0 R 39 L st μ else gc_W (gc_S d) cX11_folded 11 0 R 33 L st μ := us_ifge dX11_folded_30 rfl
theorem u107_33 {d : Nat} {R : gR} {μ : gM} {l1 l2 l3 l4 : Value} {st : List Value} {x : Nat}  : gc_W (gc_S d) cX11_folded 11 0 R 33 [.ref x, l1, l2, l3, l4] st μ ↔ gc_W (gc_S d) cX11_folded 11 0 R 34 [.ref x, l1, l2, l3, l4] (.ref x :: st) μ := us_aload_n dX11_folded_33 rfl
theorem u107_34 {d : Nat} {R : gR} {μ : gM} {L : List Value} {st : List Value}   : gc_W (gc_S d) cX11_folded 11 0 R 34 L st μ ↔ gc_W (gc_S d) cX11_folded 11 0 R 35 L (.int 1 :: st) μ := us_iconst dX11_folded_34 ci_iconst_1
theorem u107_35 {d : Nat} {R : gR} {μ : gM} {L : List Value} {o : Nat} {a0 : Int32} (hk : gc_kd o = 11) : gc_W (gc_S d) cX11_folded 11 0 R 35 L [.int a0, .ref o] μ ↔ gc_S d 75 [.ref o, .int a0] μ (fun v μ' => gc_W (gc_S d) cX11_folded 11 0 R 38 L (v.toList ++ []) μ') := us_virt dX11_folded_35 gn_11_88 gc_11_88_11 hk rfl rfl rfl rfl rfl
theorem u107_38 {d : Nat} {R : gR} {μ : gM} {L : List Value} {v : Int32}  : gc_W (gc_S d) cX11_folded 11 0 R 38 L [.int v] μ ↔ R (some (.int v)) μ := us_iret dX11_folded_38 rfl
theorem u107_39 {d : Nat} {R : gR} {μ : gM} {l0 l1 l2 l4 : Value} {st : List Value} {x : Int32}  : gc_W (gc_S d) cX11_folded 11 0 R 39 [l0, l1, l2, .int x, l4] st μ ↔ gc_W (gc_S d) cX11_folded 11 0 R 40 [l0, l1, l2, .int x, l4] (.int x :: st) μ := us_iload_n dX11_folded_39 rfl
theorem u107_40 {d : Nat} {R : gR} {μ : gM} {L : List Value} {st : List Value} {x : Int32}  : gc_W (gc_S d) cX11_folded 11 0 R 40 L (.int x :: st) μ ↔ if x = 0 then gc_W (gc_S d) cX11_folded 11 0 R 43 L st μ else gc_W (gc_S d) cX11_folded 11 0 R 51 L st μ := us_ifne dX11_folded_40 rfl
theorem u107_43 {d : Nat} {R : gR} {μ : gM} {l0 l1 l2 l3 : Value} {st : List Value} {x : Int32}  : gc_W (gc_S d) cX11_folded 11 0 R 43 [l0, l1, l2, l3, .int x] st μ ↔ gc_W (gc_S d) cX11_folded 11 0 R 45 [l0, l1, l2, l3, .int x] (.int x :: st) μ := us_iload dX11_folded_43 rfl
theorem u107_45 {d : Nat} {R : gR} {μ : gM} {L : List Value} {st : List Value}   : gc_W (gc_S d) cX11_folded 11 0 R 45 L st μ ↔ gc_W (gc_S d) cX11_folded 11 0 R 47 L (.int 16 :: st) μ := us_bipush dX11_folded_45 ci_bipush_16
theorem u107_47 {d : Nat} {R : gR} {μ : gM} {L : List Value} {st : List Value} {x y : Int32}  : gc_W (gc_S d) cX11_folded 11 0 R 47 L (.int y :: .int x :: st) μ ↔ (¬ y = 0 ∧ gc_W (gc_S d) cX11_folded 11 0 R 48 L (.int (x / y) :: st) μ) := us_idiv dX11_folded_47
theorem u107_48 {d : Nat} {R : gR} {μ : gM} {L : List Value} {st : List Value}  : gc_W (gc_S d) cX11_folded 11 0 R 48 L st μ ↔ gc_W (gc_S d) cX11_folded 11 0 R 56 L st μ := us_goto dX11_folded_48 rfl
theorem u107_51 {d : Nat} {R : gR} {μ : gM} {l0 l1 l2 l3 : Value} {st : List Value} {x : Int32}  : gc_W (gc_S d) cX11_folded 11 0 R 51 [l0, l1, l2, l3, .int x] st μ ↔ gc_W (gc_S d) cX11_folded 11 0 R 53 [l0, l1, l2, l3, .int x] (.int x :: st) μ := us_iload dX11_folded_51 rfl
theorem u107_53 {d : Nat} {R : gR} {μ : gM} {L : List Value} {st : List Value}   : gc_W (gc_S d) cX11_folded 11 0 R 53 L st μ ↔ gc_W (gc_S d) cX11_folded 11 0 R 55 L (.int 16 :: st) μ := us_bipush dX11_folded_53 ci_bipush_16
theorem u107_55 {d : Nat} {R : gR} {μ : gM} {L : List Value} {st : List Value} {x y : Int32}  : gc_W (gc_S d) cX11_folded 11 0 R 55 L (.int y :: .int x :: st) μ ↔ (¬ y = 0 ∧ gc_W (gc_S d) cX11_folded 11 0 R 56 L (.int (x - x / y * y) :: st) μ) := us_irem dX11_folded_55
theorem u107_56 {d : Nat} {R : gR} {μ : gM} {L : List Value} {v : Int32}  : gc_W (gc_S d) cX11_folded 11 0 R 56 L [.int v] μ ↔ R (some (.int v)) μ := us_iret dX11_folded_56 rfl
theorem s107 {d : Nat} {R : gR} {μ : gM} {o : Nat} {a0 a1 a2 : Int32} : gc_S (d + 1) 107 [.ref o, .int a0, .int a1, .int a2] μ R ↔ gc_W (gc_S d) cX11_folded 11 0 R 0 [.ref o, .int a0, .int a1, .int a2, .retAddr 0] [] μ := us_call (gm_107) rfl rfl
theorem dX11_topFor_0 : decode cX11_topFor 0 = .ok (.iload_n 1, 1) := by decide +kernel
theorem dX11_topFor_1 : decode cX11_topFor 1 = .ok (.invokestatic 80, 3) := by decide +kernel
theorem dX11_topFor_4 : decode cX11_topFor 4 = .ok (.ifCond .ne 9, 3) := by decide +kernel
theorem dX11_topFor_7 : decode cX11_topFor 7 = .ok (.aload_n 0, 1) := by decide +kernel
theorem dX11_topFor_8 : decode cX11_topFor 8 = .ok (.iconst 1, 1) := by decide +kernel
theorem dX11_topFor_9 : decode cX11_topFor 9 = .ok (.invokevirtual 88, 3) := by decide +kernel
theorem dX11_topFor_12 : decode cX11_topFor 12 = .ok (.ireturn, 1) := by decide +kernel
theorem dX11_topFor_13 : decode cX11_topFor 13 = .ok (.iconst 0, 1) := by decide +kernel
theorem dX11_topFor_14 : decode cX11_topFor 14 = .ok (.istore_n 2, 1) := by decide +kernel
theorem dX11_topFor_15 : decode cX11_topFor 15 = .ok (.iload_n 2, 1) := by decide +kernel
theorem dX11_topFor_16 : decode cX11_topFor 16 = .ok (.sipush 256, 3) := by decide +kernel
theorem dX11_topFor_19 : decode cX11_topFor 19 = .ok (.if_icmp .ge 68, 3) := by decide +kernel
theorem dX11_topFor_22 : decode cX11_topFor 22 = .ok (.sipush 11111, 3) := by decide +kernel
theorem dX11_topFor_25 : decode cX11_topFor 25 = .ok (.iload_n 2, 1) := by decide +kernel
theorem dX11_topFor_26 : decode cX11_topFor 26 = .ok (.bipush 6, 2) := by decide +kernel
theorem dX11_topFor_28 : decode cX11_topFor 28 = .ok (.ishr, 1) := by decide +kernel
theorem dX11_topFor_29 : decode cX11_topFor 29 = .ok (.sipush 1000, 3) := by decide +kernel
theorem dX11_topFor_32 : decode cX11_topFor 32 = .ok (.imul, 1) := by decide +kernel
theorem dX11_topFor_33 : decode cX11_topFor 33 = .ok (.iadd, 1) := by decide +kernel
theorem dX11_topFor_34 : decode cX11_topFor 34 = .ok (.iload_n 2, 1) := by decide +kernel
theorem dX11_topFor_35 : decode cX11_topFor 35 = .ok (.iconst 4, 1) := by decide +kernel
theorem dX11_topFor_36 : decode cX11_topFor 36 = .ok (.ishr, 1) := by decide +kernel
theorem dX11_topFor_37 : decode cX11_topFor 37 = .ok (.iconst 3, 1) := by decide +kernel
theorem dX11_topFor_38 : decode cX11_topFor 38 = .ok (.iand, 1) := by decide +kernel
theorem dX11_topFor_39 : decode cX11_topFor 39 = .ok (.bipush 100, 2) := by decide +kernel
theorem dX11_topFor_41 : decode cX11_topFor 41 = .ok (.imul, 1) := by decide +kernel
theorem dX11_topFor_42 : decode cX11_topFor 42 = .ok (.iadd, 1) := by decide +kernel
theorem dX11_topFor_43 : decode cX11_topFor 43 = .ok (.iload_n 2, 1) := by decide +kernel
theorem dX11_topFor_44 : decode cX11_topFor 44 = .ok (.iconst 2, 1) := by decide +kernel
theorem dX11_topFor_45 : decode cX11_topFor 45 = .ok (.ishr, 1) := by decide +kernel
theorem dX11_topFor_46 : decode cX11_topFor 46 = .ok (.iconst 3, 1) := by decide +kernel
theorem dX11_topFor_47 : decode cX11_topFor 47 = .ok (.iand, 1) := by decide +kernel
theorem dX11_topFor_48 : decode cX11_topFor 48 = .ok (.bipush 10, 2) := by decide +kernel
theorem dX11_topFor_50 : decode cX11_topFor 50 = .ok (.imul, 1) := by decide +kernel
theorem dX11_topFor_51 : decode cX11_topFor 51 = .ok (.iadd, 1) := by decide +kernel
theorem dX11_topFor_52 : decode cX11_topFor 52 = .ok (.iload_n 2, 1) := by decide +kernel
theorem dX11_topFor_53 : decode cX11_topFor 53 = .ok (.iconst 3, 1) := by decide +kernel
theorem dX11_topFor_54 : decode cX11_topFor 54 = .ok (.iand, 1) := by decide +kernel
theorem dX11_topFor_55 : decode cX11_topFor 55 = .ok (.iadd, 1) := by decide +kernel
theorem dX11_topFor_56 : decode cX11_topFor 56 = .ok (.istore_n 3, 1) := by decide +kernel
theorem dX11_topFor_57 : decode cX11_topFor 57 = .ok (.iload_n 3, 1) := by decide +kernel
theorem dX11_topFor_58 : decode cX11_topFor 58 = .ok (.iload_n 1, 1) := by decide +kernel
theorem dX11_topFor_59 : decode cX11_topFor 59 = .ok (.invokestatic 214, 3) := by decide +kernel
theorem dX11_topFor_62 : decode cX11_topFor 62 = .ok (.istore 4, 2) := by decide +kernel
theorem dX11_topFor_64 : decode cX11_topFor 64 = .ok (.iload 4, 2) := by decide +kernel
theorem dX11_topFor_66 : decode cX11_topFor 66 = .ok (.ifCond .lt 15, 3) := by decide +kernel
theorem dX11_topFor_69 : decode cX11_topFor 69 = .ok (.iload 4, 2) := by decide +kernel
theorem dX11_topFor_71 : decode cX11_topFor 71 = .ok (.bipush 16, 2) := by decide +kernel
theorem dX11_topFor_73 : decode cX11_topFor 73 = .ok (.irem, 1) := by decide +kernel
theorem dX11_topFor_74 : decode cX11_topFor 74 = .ok (.bipush 15, 2) := by decide +kernel
theorem dX11_topFor_76 : decode cX11_topFor 76 = .ok (.if_icmp .ne 5, 3) := by decide +kernel
theorem dX11_topFor_79 : decode cX11_topFor 79 = .ok (.iload_n 3, 1) := by decide +kernel
theorem dX11_topFor_80 : decode cX11_topFor 80 = .ok (.ireturn, 1) := by decide +kernel
theorem dX11_topFor_81 : decode cX11_topFor 81 = .ok (.iinc 2 1, 3) := by decide +kernel
theorem dX11_topFor_84 : decode cX11_topFor 84 = .ok (.goto (-69), 3) := by decide +kernel
theorem dX11_topFor_87 : decode cX11_topFor 87 = .ok (.aload_n 0, 1) := by decide +kernel
theorem dX11_topFor_88 : decode cX11_topFor 88 = .ok (.iconst 2, 1) := by decide +kernel
theorem dX11_topFor_89 : decode cX11_topFor 89 = .ok (.invokevirtual 88, 3) := by decide +kernel
theorem dX11_topFor_92 : decode cX11_topFor 92 = .ok (.ireturn, 1) := by decide +kernel
theorem u108_0 {d : Nat} {R : gR} {μ : gM} {l0 l2 l3 l4 : Value} {st : List Value} {x : Int32}  : gc_W (gc_S d) cX11_topFor 11 0 R 0 [l0, .int x, l2, l3, l4] st μ ↔ gc_W (gc_S d) cX11_topFor 11 0 R 1 [l0, .int x, l2, l3, l4] (.int x :: st) μ := us_iload_n dX11_topFor_0 rfl
theorem u108_1 {d : Nat} {R : gR} {μ : gM} {L : List Value}  {a0 : Int32}  : gc_W (gc_S d) cX11_topFor 11 0 R 1 L [.int a0] μ ↔ gc_S d 74 [.int a0] μ (fun v μ' => gc_W (gc_S d) cX11_topFor 11 0 R 4 L (v.toList ++ []) μ') := us_stat dX11_topFor_1 gs_11_80 gne_11_80 gn_11_80 gc_11_80_97 rfl rfl rfl rfl
theorem u108_4 {d : Nat} {R : gR} {μ : gM} {L : List Value} {st : List Value} {x : Int32}  : gc_W (gc_S d) cX11_topFor 11 0 R 4 L (.int x :: st) μ ↔ if x = 0 then gc_W (gc_S d) cX11_topFor 11 0 R 7 L st μ else gc_W (gc_S d) cX11_topFor 11 0 R 13 L st μ := us_ifne dX11_topFor_4 rfl
theorem u108_7 {d : Nat} {R : gR} {μ : gM} {l1 l2 l3 l4 : Value} {st : List Value} {x : Nat}  : gc_W (gc_S d) cX11_topFor 11 0 R 7 [.ref x, l1, l2, l3, l4] st μ ↔ gc_W (gc_S d) cX11_topFor 11 0 R 8 [.ref x, l1, l2, l3, l4] (.ref x :: st) μ := us_aload_n dX11_topFor_7 rfl
theorem u108_8 {d : Nat} {R : gR} {μ : gM} {L : List Value} {st : List Value}   : gc_W (gc_S d) cX11_topFor 11 0 R 8 L st μ ↔ gc_W (gc_S d) cX11_topFor 11 0 R 9 L (.int 1 :: st) μ := us_iconst dX11_topFor_8 ci_iconst_1
theorem u108_9 {d : Nat} {R : gR} {μ : gM} {L : List Value} {o : Nat} {a0 : Int32} (hk : gc_kd o = 11) : gc_W (gc_S d) cX11_topFor 11 0 R 9 L [.int a0, .ref o] μ ↔ gc_S d 75 [.ref o, .int a0] μ (fun v μ' => gc_W (gc_S d) cX11_topFor 11 0 R 12 L (v.toList ++ []) μ') := us_virt dX11_topFor_9 gn_11_88 gc_11_88_11 hk rfl rfl rfl rfl rfl
theorem u108_12 {d : Nat} {R : gR} {μ : gM} {L : List Value} {v : Int32}  : gc_W (gc_S d) cX11_topFor 11 0 R 12 L [.int v] μ ↔ R (some (.int v)) μ := us_iret dX11_topFor_12 rfl
theorem u108_13 {d : Nat} {R : gR} {μ : gM} {L : List Value} {st : List Value}   : gc_W (gc_S d) cX11_topFor 11 0 R 13 L st μ ↔ gc_W (gc_S d) cX11_topFor 11 0 R 14 L (.int 0 :: st) μ := us_iconst dX11_topFor_13 ci_iconst_0
theorem u108_14 {d : Nat} {R : gR} {μ : gM} {l0 l1 l2 l3 l4 : Value} {st : List Value} {x : Int32} (hs : gc_sk l2 = true) : gc_W (gc_S d) cX11_topFor 11 0 R 14 [l0, l1, l2, l3, l4] (.int x :: st) μ ↔ gc_W (gc_S d) cX11_topFor 11 0 R 15 [l0, l1, .int x, l3, l4] st μ := us_istore_n dX11_topFor_14 rfl hs
theorem u108_15 {d : Nat} {R : gR} {μ : gM} {l0 l1 l3 l4 : Value} {st : List Value} {x : Int32}  : gc_W (gc_S d) cX11_topFor 11 0 R 15 [l0, l1, .int x, l3, l4] st μ ↔ gc_W (gc_S d) cX11_topFor 11 0 R 16 [l0, l1, .int x, l3, l4] (.int x :: st) μ := us_iload_n dX11_topFor_15 rfl
theorem u108_16 {d : Nat} {R : gR} {μ : gM} {L : List Value} {st : List Value}   : gc_W (gc_S d) cX11_topFor 11 0 R 16 L st μ ↔ gc_W (gc_S d) cX11_topFor 11 0 R 19 L (.int 256 :: st) μ := us_sipush dX11_topFor_16 ci_sipush_256
theorem u108_19 {d : Nat} {R : gR} {μ : gM} {L : List Value} {st : List Value} {x y : Int32}  : gc_W (gc_S d) cX11_topFor 11 0 R 19 L (.int y :: .int x :: st) μ ↔ if y ≤ x then gc_W (gc_S d) cX11_topFor 11 0 R 87 L st μ else gc_W (gc_S d) cX11_topFor 11 0 R 22 L st μ := us_icge dX11_topFor_19 rfl
theorem u108_22 {d : Nat} {R : gR} {μ : gM} {L : List Value} {st : List Value}   : gc_W (gc_S d) cX11_topFor 11 0 R 22 L st μ ↔ gc_W (gc_S d) cX11_topFor 11 0 R 25 L (.int 11111 :: st) μ := us_sipush dX11_topFor_22 ci_sipush_11111
theorem u108_25 {d : Nat} {R : gR} {μ : gM} {l0 l1 l3 l4 : Value} {st : List Value} {x : Int32}  : gc_W (gc_S d) cX11_topFor 11 0 R 25 [l0, l1, .int x, l3, l4] st μ ↔ gc_W (gc_S d) cX11_topFor 11 0 R 26 [l0, l1, .int x, l3, l4] (.int x :: st) μ := us_iload_n dX11_topFor_25 rfl
theorem u108_26 {d : Nat} {R : gR} {μ : gM} {L : List Value} {st : List Value}   : gc_W (gc_S d) cX11_topFor 11 0 R 26 L st μ ↔ gc_W (gc_S d) cX11_topFor 11 0 R 28 L (.int 6 :: st) μ := us_bipush dX11_topFor_26 ci_bipush_6
theorem u108_28 {d : Nat} {R : gR} {μ : gM} {L : List Value} {st : List Value} {x y : Int32}  : gc_W (gc_S d) cX11_topFor 11 0 R 28 L (.int y :: .int x :: st) μ ↔ gc_W (gc_S d) cX11_topFor 11 0 R 29 L (.int (x >>> (y &&& 31)) :: st) μ := us_ishr dX11_topFor_28
theorem u108_29 {d : Nat} {R : gR} {μ : gM} {L : List Value} {st : List Value}   : gc_W (gc_S d) cX11_topFor 11 0 R 29 L st μ ↔ gc_W (gc_S d) cX11_topFor 11 0 R 32 L (.int 1000 :: st) μ := us_sipush dX11_topFor_29 ci_sipush_1000
theorem u108_32 {d : Nat} {R : gR} {μ : gM} {L : List Value} {st : List Value} {x y : Int32}  : gc_W (gc_S d) cX11_topFor 11 0 R 32 L (.int y :: .int x :: st) μ ↔ gc_W (gc_S d) cX11_topFor 11 0 R 33 L (.int (x * y) :: st) μ := us_imul dX11_topFor_32
theorem u108_33 {d : Nat} {R : gR} {μ : gM} {L : List Value} {st : List Value} {x y : Int32}  : gc_W (gc_S d) cX11_topFor 11 0 R 33 L (.int y :: .int x :: st) μ ↔ gc_W (gc_S d) cX11_topFor 11 0 R 34 L (.int (x + y) :: st) μ := us_iadd dX11_topFor_33
theorem u108_34 {d : Nat} {R : gR} {μ : gM} {l0 l1 l3 l4 : Value} {st : List Value} {x : Int32}  : gc_W (gc_S d) cX11_topFor 11 0 R 34 [l0, l1, .int x, l3, l4] st μ ↔ gc_W (gc_S d) cX11_topFor 11 0 R 35 [l0, l1, .int x, l3, l4] (.int x :: st) μ := us_iload_n dX11_topFor_34 rfl
theorem u108_35 {d : Nat} {R : gR} {μ : gM} {L : List Value} {st : List Value}   : gc_W (gc_S d) cX11_topFor 11 0 R 35 L st μ ↔ gc_W (gc_S d) cX11_topFor 11 0 R 36 L (.int 4 :: st) μ := us_iconst dX11_topFor_35 ci_iconst_4
theorem u108_36 {d : Nat} {R : gR} {μ : gM} {L : List Value} {st : List Value} {x y : Int32}  : gc_W (gc_S d) cX11_topFor 11 0 R 36 L (.int y :: .int x :: st) μ ↔ gc_W (gc_S d) cX11_topFor 11 0 R 37 L (.int (x >>> (y &&& 31)) :: st) μ := us_ishr dX11_topFor_36
theorem u108_37 {d : Nat} {R : gR} {μ : gM} {L : List Value} {st : List Value}   : gc_W (gc_S d) cX11_topFor 11 0 R 37 L st μ ↔ gc_W (gc_S d) cX11_topFor 11 0 R 38 L (.int 3 :: st) μ := us_iconst dX11_topFor_37 ci_iconst_3
theorem u108_38 {d : Nat} {R : gR} {μ : gM} {L : List Value} {st : List Value} {x y : Int32}  : gc_W (gc_S d) cX11_topFor 11 0 R 38 L (.int y :: .int x :: st) μ ↔ gc_W (gc_S d) cX11_topFor 11 0 R 39 L (.int (x &&& y) :: st) μ := us_iand dX11_topFor_38
theorem u108_39 {d : Nat} {R : gR} {μ : gM} {L : List Value} {st : List Value}   : gc_W (gc_S d) cX11_topFor 11 0 R 39 L st μ ↔ gc_W (gc_S d) cX11_topFor 11 0 R 41 L (.int 100 :: st) μ := us_bipush dX11_topFor_39 ci_bipush_100
theorem u108_41 {d : Nat} {R : gR} {μ : gM} {L : List Value} {st : List Value} {x y : Int32}  : gc_W (gc_S d) cX11_topFor 11 0 R 41 L (.int y :: .int x :: st) μ ↔ gc_W (gc_S d) cX11_topFor 11 0 R 42 L (.int (x * y) :: st) μ := us_imul dX11_topFor_41
theorem u108_42 {d : Nat} {R : gR} {μ : gM} {L : List Value} {st : List Value} {x y : Int32}  : gc_W (gc_S d) cX11_topFor 11 0 R 42 L (.int y :: .int x :: st) μ ↔ gc_W (gc_S d) cX11_topFor 11 0 R 43 L (.int (x + y) :: st) μ := us_iadd dX11_topFor_42
theorem u108_43 {d : Nat} {R : gR} {μ : gM} {l0 l1 l3 l4 : Value} {st : List Value} {x : Int32}  : gc_W (gc_S d) cX11_topFor 11 0 R 43 [l0, l1, .int x, l3, l4] st μ ↔ gc_W (gc_S d) cX11_topFor 11 0 R 44 [l0, l1, .int x, l3, l4] (.int x :: st) μ := us_iload_n dX11_topFor_43 rfl
theorem u108_44 {d : Nat} {R : gR} {μ : gM} {L : List Value} {st : List Value}   : gc_W (gc_S d) cX11_topFor 11 0 R 44 L st μ ↔ gc_W (gc_S d) cX11_topFor 11 0 R 45 L (.int 2 :: st) μ := us_iconst dX11_topFor_44 ci_iconst_2
theorem u108_45 {d : Nat} {R : gR} {μ : gM} {L : List Value} {st : List Value} {x y : Int32}  : gc_W (gc_S d) cX11_topFor 11 0 R 45 L (.int y :: .int x :: st) μ ↔ gc_W (gc_S d) cX11_topFor 11 0 R 46 L (.int (x >>> (y &&& 31)) :: st) μ := us_ishr dX11_topFor_45
theorem u108_46 {d : Nat} {R : gR} {μ : gM} {L : List Value} {st : List Value}   : gc_W (gc_S d) cX11_topFor 11 0 R 46 L st μ ↔ gc_W (gc_S d) cX11_topFor 11 0 R 47 L (.int 3 :: st) μ := us_iconst dX11_topFor_46 ci_iconst_3
theorem u108_47 {d : Nat} {R : gR} {μ : gM} {L : List Value} {st : List Value} {x y : Int32}  : gc_W (gc_S d) cX11_topFor 11 0 R 47 L (.int y :: .int x :: st) μ ↔ gc_W (gc_S d) cX11_topFor 11 0 R 48 L (.int (x &&& y) :: st) μ := us_iand dX11_topFor_47
theorem u108_48 {d : Nat} {R : gR} {μ : gM} {L : List Value} {st : List Value}   : gc_W (gc_S d) cX11_topFor 11 0 R 48 L st μ ↔ gc_W (gc_S d) cX11_topFor 11 0 R 50 L (.int 10 :: st) μ := us_bipush dX11_topFor_48 ci_bipush_10
theorem u108_50 {d : Nat} {R : gR} {μ : gM} {L : List Value} {st : List Value} {x y : Int32}  : gc_W (gc_S d) cX11_topFor 11 0 R 50 L (.int y :: .int x :: st) μ ↔ gc_W (gc_S d) cX11_topFor 11 0 R 51 L (.int (x * y) :: st) μ := us_imul dX11_topFor_50
theorem u108_51 {d : Nat} {R : gR} {μ : gM} {L : List Value} {st : List Value} {x y : Int32}  : gc_W (gc_S d) cX11_topFor 11 0 R 51 L (.int y :: .int x :: st) μ ↔ gc_W (gc_S d) cX11_topFor 11 0 R 52 L (.int (x + y) :: st) μ := us_iadd dX11_topFor_51
theorem u108_52 {d : Nat} {R : gR} {μ : gM} {l0 l1 l3 l4 : Value} {st : List Value} {x : Int32}  : gc_W (gc_S d) cX11_topFor 11 0 R 52 [l0, l1, .int x, l3, l4] st μ ↔ gc_W (gc_S d) cX11_topFor 11 0 R 53 [l0, l1, .int x, l3, l4] (.int x :: st) μ := us_iload_n dX11_topFor_52 rfl
theorem u108_53 {d : Nat} {R : gR} {μ : gM} {L : List Value} {st : List Value}   : gc_W (gc_S d) cX11_topFor 11 0 R 53 L st μ ↔ gc_W (gc_S d) cX11_topFor 11 0 R 54 L (.int 3 :: st) μ := us_iconst dX11_topFor_53 ci_iconst_3
theorem u108_54 {d : Nat} {R : gR} {μ : gM} {L : List Value} {st : List Value} {x y : Int32}  : gc_W (gc_S d) cX11_topFor 11 0 R 54 L (.int y :: .int x :: st) μ ↔ gc_W (gc_S d) cX11_topFor 11 0 R 55 L (.int (x &&& y) :: st) μ := us_iand dX11_topFor_54
theorem u108_55 {d : Nat} {R : gR} {μ : gM} {L : List Value} {st : List Value} {x y : Int32}  : gc_W (gc_S d) cX11_topFor 11 0 R 55 L (.int y :: .int x :: st) μ ↔ gc_W (gc_S d) cX11_topFor 11 0 R 56 L (.int (x + y) :: st) μ := us_iadd dX11_topFor_55
theorem u108_56 {d : Nat} {R : gR} {μ : gM} {l0 l1 l2 l3 l4 : Value} {st : List Value} {x : Int32} (hs : gc_sk l3 = true) : gc_W (gc_S d) cX11_topFor 11 0 R 56 [l0, l1, l2, l3, l4] (.int x :: st) μ ↔ gc_W (gc_S d) cX11_topFor 11 0 R 57 [l0, l1, l2, .int x, l4] st μ := us_istore_n dX11_topFor_56 rfl hs
theorem u108_57 {d : Nat} {R : gR} {μ : gM} {l0 l1 l2 l4 : Value} {st : List Value} {x : Int32}  : gc_W (gc_S d) cX11_topFor 11 0 R 57 [l0, l1, l2, .int x, l4] st μ ↔ gc_W (gc_S d) cX11_topFor 11 0 R 58 [l0, l1, l2, .int x, l4] (.int x :: st) μ := us_iload_n dX11_topFor_57 rfl
theorem u108_58 {d : Nat} {R : gR} {μ : gM} {l0 l2 l3 l4 : Value} {st : List Value} {x : Int32}  : gc_W (gc_S d) cX11_topFor 11 0 R 58 [l0, .int x, l2, l3, l4] st μ ↔ gc_W (gc_S d) cX11_topFor 11 0 R 59 [l0, .int x, l2, l3, l4] (.int x :: st) μ := us_iload_n dX11_topFor_58 rfl
theorem u108_59 {d : Nat} {R : gR} {μ : gM} {L : List Value}  {a0 a1 : Int32}  : gc_W (gc_S d) cX11_topFor 11 0 R 59 L [.int a1, .int a0] μ ↔ gc_S d 106 [.int a0, .int a1] μ (fun v μ' => gc_W (gc_S d) cX11_topFor 11 0 R 62 L (v.toList ++ []) μ') := us_stat dX11_topFor_59 gs_11_214 gne_11_214 gn_11_214 gc_11_214_97 rfl rfl rfl rfl
theorem u108_62 {d : Nat} {R : gR} {μ : gM} {l0 l1 l2 l3 l4 : Value} {st : List Value} {x : Int32} (hs : gc_sk l4 = true) : gc_W (gc_S d) cX11_topFor 11 0 R 62 [l0, l1, l2, l3, l4] (.int x :: st) μ ↔ gc_W (gc_S d) cX11_topFor 11 0 R 64 [l0, l1, l2, l3, .int x] st μ := us_istore dX11_topFor_62 rfl hs
theorem u108_64 {d : Nat} {R : gR} {μ : gM} {l0 l1 l2 l3 : Value} {st : List Value} {x : Int32}  : gc_W (gc_S d) cX11_topFor 11 0 R 64 [l0, l1, l2, l3, .int x] st μ ↔ gc_W (gc_S d) cX11_topFor 11 0 R 66 [l0, l1, l2, l3, .int x] (.int x :: st) μ := us_iload dX11_topFor_64 rfl
theorem u108_66 {d : Nat} {R : gR} {μ : gM} {L : List Value} {st : List Value} {x : Int32}  : gc_W (gc_S d) cX11_topFor 11 0 R 66 L (.int x :: st) μ ↔ if x < 0 then gc_W (gc_S d) cX11_topFor 11 0 R 81 L st μ else gc_W (gc_S d) cX11_topFor 11 0 R 69 L st μ := us_iflt dX11_topFor_66 rfl
theorem u108_69 {d : Nat} {R : gR} {μ : gM} {l0 l1 l2 l3 : Value} {st : List Value} {x : Int32}  : gc_W (gc_S d) cX11_topFor 11 0 R 69 [l0, l1, l2, l3, .int x] st μ ↔ gc_W (gc_S d) cX11_topFor 11 0 R 71 [l0, l1, l2, l3, .int x] (.int x :: st) μ := us_iload dX11_topFor_69 rfl
theorem u108_71 {d : Nat} {R : gR} {μ : gM} {L : List Value} {st : List Value}   : gc_W (gc_S d) cX11_topFor 11 0 R 71 L st μ ↔ gc_W (gc_S d) cX11_topFor 11 0 R 73 L (.int 16 :: st) μ := us_bipush dX11_topFor_71 ci_bipush_16
theorem u108_73 {d : Nat} {R : gR} {μ : gM} {L : List Value} {st : List Value} {x y : Int32}  : gc_W (gc_S d) cX11_topFor 11 0 R 73 L (.int y :: .int x :: st) μ ↔ (¬ y = 0 ∧ gc_W (gc_S d) cX11_topFor 11 0 R 74 L (.int (x - x / y * y) :: st) μ) := us_irem dX11_topFor_73
theorem u108_74 {d : Nat} {R : gR} {μ : gM} {L : List Value} {st : List Value}   : gc_W (gc_S d) cX11_topFor 11 0 R 74 L st μ ↔ gc_W (gc_S d) cX11_topFor 11 0 R 76 L (.int 15 :: st) μ := us_bipush dX11_topFor_74 ci_bipush_15
theorem u108_76 {d : Nat} {R : gR} {μ : gM} {L : List Value} {st : List Value} {x y : Int32}  : gc_W (gc_S d) cX11_topFor 11 0 R 76 L (.int y :: .int x :: st) μ ↔ if x = y then gc_W (gc_S d) cX11_topFor 11 0 R 79 L st μ else gc_W (gc_S d) cX11_topFor 11 0 R 81 L st μ := us_icne dX11_topFor_76 rfl
theorem u108_79 {d : Nat} {R : gR} {μ : gM} {l0 l1 l2 l4 : Value} {st : List Value} {x : Int32}  : gc_W (gc_S d) cX11_topFor 11 0 R 79 [l0, l1, l2, .int x, l4] st μ ↔ gc_W (gc_S d) cX11_topFor 11 0 R 80 [l0, l1, l2, .int x, l4] (.int x :: st) μ := us_iload_n dX11_topFor_79 rfl
theorem u108_80 {d : Nat} {R : gR} {μ : gM} {L : List Value} {v : Int32}  : gc_W (gc_S d) cX11_topFor 11 0 R 80 L [.int v] μ ↔ R (some (.int v)) μ := us_iret dX11_topFor_80 rfl
theorem u108_81 {d : Nat} {R : gR} {μ : gM} {l0 l1 l3 l4 : Value} {st : List Value} {x : Int32}  : gc_W (gc_S d) cX11_topFor 11 0 R 81 [l0, l1, .int x, l3, l4] st μ ↔ gc_W (gc_S d) cX11_topFor 11 0 R 84 [l0, l1, .int (x + 1), l3, l4] st μ := us_iinc dX11_topFor_81 rfl ci_iinc_1
theorem u108_84 {d : Nat} {R : gR} {μ : gM} {L : List Value} {st : List Value}  : gc_W (gc_S d) cX11_topFor 11 0 R 84 L st μ ↔ gc_W (gc_S d) cX11_topFor 11 0 R 15 L st μ := us_goto dX11_topFor_84 rfl
theorem u108_87 {d : Nat} {R : gR} {μ : gM} {l1 l2 l3 l4 : Value} {st : List Value} {x : Nat}  : gc_W (gc_S d) cX11_topFor 11 0 R 87 [.ref x, l1, l2, l3, l4] st μ ↔ gc_W (gc_S d) cX11_topFor 11 0 R 88 [.ref x, l1, l2, l3, l4] (.ref x :: st) μ := us_aload_n dX11_topFor_87 rfl
theorem u108_88 {d : Nat} {R : gR} {μ : gM} {L : List Value} {st : List Value}   : gc_W (gc_S d) cX11_topFor 11 0 R 88 L st μ ↔ gc_W (gc_S d) cX11_topFor 11 0 R 89 L (.int 2 :: st) μ := us_iconst dX11_topFor_88 ci_iconst_2
theorem u108_89 {d : Nat} {R : gR} {μ : gM} {L : List Value} {o : Nat} {a0 : Int32} (hk : gc_kd o = 11) : gc_W (gc_S d) cX11_topFor 11 0 R 89 L [.int a0, .ref o] μ ↔ gc_S d 75 [.ref o, .int a0] μ (fun v μ' => gc_W (gc_S d) cX11_topFor 11 0 R 92 L (v.toList ++ []) μ') := us_virt dX11_topFor_89 gn_11_88 gc_11_88_11 hk rfl rfl rfl rfl rfl
theorem u108_92 {d : Nat} {R : gR} {μ : gM} {L : List Value} {v : Int32}  : gc_W (gc_S d) cX11_topFor 11 0 R 92 L [.int v] μ ↔ R (some (.int v)) μ := us_iret dX11_topFor_92 rfl
theorem s108 {d : Nat} {R : gR} {μ : gM} {o : Nat} {a0 : Int32} : gc_S (d + 1) 108 [.ref o, .int a0] μ R ↔ gc_W (gc_S d) cX11_topFor 11 0 R 0 [.ref o, .int a0, .retAddr 0, .retAddr 0, .retAddr 0] [] μ := us_call (gm_108) rfl rfl
theorem dX11_route_0 : decode cX11_route 0 = .ok (.iload_n 1, 1) := by decide +kernel
theorem dX11_route_1 : decode cX11_route 1 = .ok (.invokestatic 80, 3) := by decide +kernel
theorem dX11_route_4 : decode cX11_route 4 = .ok (.ifCond .eq 10, 3) := by decide +kernel
theorem dX11_route_7 : decode cX11_route 7 = .ok (.iload_n 2, 1) := by decide +kernel
theorem dX11_route_8 : decode cX11_route 8 = .ok (.invokestatic 80, 3) := by decide +kernel
theorem dX11_route_11 : decode cX11_route 11 = .ok (.ifCond .ne 9, 3) := by decide +kernel
theorem dX11_route_14 : decode cX11_route 14 = .ok (.aload_n 0, 1) := by decide +kernel
theorem dX11_route_15 : decode cX11_route 15 = .ok (.iconst 1, 1) := by decide +kernel
theorem dX11_route_16 : decode cX11_route 16 = .ok (.invokevirtual 88, 3) := by decide +kernel
theorem dX11_route_19 : decode cX11_route 19 = .ok (.ireturn, 1) := by decide +kernel
theorem dX11_route_20 : decode cX11_route 20 = .ok (.aload_n 0, 1) := by decide +kernel
theorem dX11_route_21 : decode cX11_route 21 = .ok (.getfield 38, 3) := by decide +kernel
theorem dX11_route_24 : decode cX11_route 24 = .ok (.getfield 95, 3) := by decide +kernel
theorem dX11_route_27 : decode cX11_route 27 = .ok (.iload_n 1, 1) := by decide +kernel
theorem dX11_route_28 : decode cX11_route 28 = .ok (.ishr, 1) := by decide +kernel
theorem dX11_route_29 : decode cX11_route 29 = .ok (.iconst 1, 1) := by decide +kernel
theorem dX11_route_30 : decode cX11_route 30 = .ok (.iand, 1) := by decide +kernel
theorem dX11_route_31 : decode cX11_route 31 = .ok (.iconst 1, 1) := by decide +kernel
theorem dX11_route_32 : decode cX11_route 32 = .ok (.if_icmp .eq 18, 3) := by decide +kernel
theorem dX11_route_35 : decode cX11_route 35 = .ok (.aload_n 0, 1) := by decide +kernel
theorem dX11_route_36 : decode cX11_route 36 = .ok (.getfield 38, 3) := by decide +kernel
theorem dX11_route_39 : decode cX11_route 39 = .ok (.getfield 95, 3) := by decide +kernel
theorem dX11_route_42 : decode cX11_route 42 = .ok (.iload_n 2, 1) := by decide +kernel
theorem dX11_route_43 : decode cX11_route 43 = .ok (.ishr, 1) := by decide +kernel
theorem dX11_route_44 : decode cX11_route 44 = .ok (.iconst 1, 1) := by decide +kernel
theorem dX11_route_45 : decode cX11_route 45 = .ok (.iand, 1) := by decide +kernel
theorem dX11_route_46 : decode cX11_route 46 = .ok (.iconst 1, 1) := by decide +kernel
theorem dX11_route_47 : decode cX11_route 47 = .ok (.if_icmp .ne 9, 3) := by decide +kernel
theorem dX11_route_50 : decode cX11_route 50 = .ok (.aload_n 0, 1) := by decide +kernel
theorem dX11_route_51 : decode cX11_route 51 = .ok (.iconst 3, 1) := by decide +kernel
theorem dX11_route_52 : decode cX11_route 52 = .ok (.invokevirtual 88, 3) := by decide +kernel
theorem dX11_route_55 : decode cX11_route 55 = .ok (.ireturn, 1) := by decide +kernel
theorem dX11_route_56 : decode cX11_route 56 = .ok (.iconst 1, 1) := by decide +kernel
theorem dX11_route_57 : decode cX11_route 57 = .ok (.iload_n 1, 1) := by decide +kernel
theorem dX11_route_58 : decode cX11_route 58 = .ok (.ishl, 1) := by decide +kernel
theorem dX11_route_59 : decode cX11_route 59 = .ok (.istore_n 3, 1) := by decide +kernel
theorem dX11_route_60 : decode cX11_route 60 = .ok (.iconst 0, 1) := by decide +kernel
theorem dX11_route_61 : decode cX11_route 61 = .ok (.istore 4, 2) := by decide +kernel
theorem dX11_route_63 : decode cX11_route 63 = .ok (.iload 4, 2) := by decide +kernel
theorem dX11_route_65 : decode cX11_route 65 = .ok (.bipush 16, 2) := by decide +kernel
theorem dX11_route_67 : decode cX11_route 67 = .ok (.if_icmp .ge 34, 3) := by decide +kernel
theorem dX11_route_70 : decode cX11_route 70 = .ok (.iload_n 3, 1) := by decide +kernel
theorem dX11_route_71 : decode cX11_route 71 = .ok (.iload_n 2, 1) := by decide +kernel
theorem dX11_route_72 : decode cX11_route 72 = .ok (.ishr, 1) := by decide +kernel
theorem dX11_route_73 : decode cX11_route 73 = .ok (.iconst 1, 1) := by decide +kernel
theorem dX11_route_74 : decode cX11_route 74 = .ok (.iand, 1) := by decide +kernel
theorem dX11_route_75 : decode cX11_route 75 = .ok (.iconst 1, 1) := by decide +kernel
theorem dX11_route_76 : decode cX11_route 76 = .ok (.if_icmp .ne 6, 3) := by decide +kernel
theorem dX11_route_79 : decode cX11_route 79 = .ok (.iload 4, 2) := by decide +kernel
theorem dX11_route_81 : decode cX11_route 81 = .ok (.ireturn, 1) := by decide +kernel
theorem dX11_route_82 : decode cX11_route 82 = .ok (.iload_n 3, 1) := by decide +kernel
theorem dX11_route_83 : decode cX11_route 83 = .ok (.invokestatic 217, 3) := by decide +kernel
theorem dX11_route_86 : decode cX11_route 86 = .ok (.aload_n 0, 1) := by decide +kernel
theorem dX11_route_87 : decode cX11_route 87 = .ok (.getfield 38, 3) := by decide +kernel
theorem dX11_route_90 : decode cX11_route 90 = .ok (.invokevirtual 220, 3) := by decide +kernel
theorem dX11_route_93 : decode cX11_route 93 = .ok (.iand, 1) := by decide +kernel
theorem dX11_route_94 : decode cX11_route 94 = .ok (.istore_n 3, 1) := by decide +kernel
theorem dX11_route_95 : decode cX11_route 95 = .ok (.iinc 4 1, 3) := by decide +kernel
theorem dX11_route_98 : decode cX11_route 98 = .ok (.goto (-35), 3) := by decide +kernel
theorem dX11_route_101 : decode cX11_route 101 = .ok (.aload_n 0, 1) := by decide +kernel
theorem dX11_route_102 : decode cX11_route 102 = .ok (.iconst 2, 1) := by decide +kernel
theorem dX11_route_103 : decode cX11_route 103 = .ok (.invokevirtual 88, 3) := by decide +kernel
theorem dX11_route_106 : decode cX11_route 106 = .ok (.ireturn, 1) := by decide +kernel
theorem u109_0 {d : Nat} {R : gR} {μ : gM} {l0 l2 l3 l4 : Value} {st : List Value} {x : Int32}  : gc_W (gc_S d) cX11_route 11 0 R 0 [l0, .int x, l2, l3, l4] st μ ↔ gc_W (gc_S d) cX11_route 11 0 R 1 [l0, .int x, l2, l3, l4] (.int x :: st) μ := us_iload_n dX11_route_0 rfl
theorem u109_1 {d : Nat} {R : gR} {μ : gM} {L : List Value}  {a0 : Int32}  : gc_W (gc_S d) cX11_route 11 0 R 1 L [.int a0] μ ↔ gc_S d 74 [.int a0] μ (fun v μ' => gc_W (gc_S d) cX11_route 11 0 R 4 L (v.toList ++ []) μ') := us_stat dX11_route_1 gs_11_80 gne_11_80 gn_11_80 gc_11_80_97 rfl rfl rfl rfl
theorem u109_4 {d : Nat} {R : gR} {μ : gM} {L : List Value} {st : List Value} {x : Int32}  : gc_W (gc_S d) cX11_route 11 0 R 4 L (.int x :: st) μ ↔ if x = 0 then gc_W (gc_S d) cX11_route 11 0 R 14 L st μ else gc_W (gc_S d) cX11_route 11 0 R 7 L st μ := us_ifeq dX11_route_4 rfl
theorem u109_7 {d : Nat} {R : gR} {μ : gM} {l0 l1 l3 l4 : Value} {st : List Value} {x : Int32}  : gc_W (gc_S d) cX11_route 11 0 R 7 [l0, l1, .int x, l3, l4] st μ ↔ gc_W (gc_S d) cX11_route 11 0 R 8 [l0, l1, .int x, l3, l4] (.int x :: st) μ := us_iload_n dX11_route_7 rfl
theorem u109_8 {d : Nat} {R : gR} {μ : gM} {L : List Value}  {a0 : Int32}  : gc_W (gc_S d) cX11_route 11 0 R 8 L [.int a0] μ ↔ gc_S d 74 [.int a0] μ (fun v μ' => gc_W (gc_S d) cX11_route 11 0 R 11 L (v.toList ++ []) μ') := us_stat dX11_route_8 gs_11_80 gne_11_80 gn_11_80 gc_11_80_97 rfl rfl rfl rfl
theorem u109_11 {d : Nat} {R : gR} {μ : gM} {L : List Value} {st : List Value} {x : Int32}  : gc_W (gc_S d) cX11_route 11 0 R 11 L (.int x :: st) μ ↔ if x = 0 then gc_W (gc_S d) cX11_route 11 0 R 14 L st μ else gc_W (gc_S d) cX11_route 11 0 R 20 L st μ := us_ifne dX11_route_11 rfl
theorem u109_14 {d : Nat} {R : gR} {μ : gM} {l1 l2 l3 l4 : Value} {st : List Value} {x : Nat}  : gc_W (gc_S d) cX11_route 11 0 R 14 [.ref x, l1, l2, l3, l4] st μ ↔ gc_W (gc_S d) cX11_route 11 0 R 15 [.ref x, l1, l2, l3, l4] (.ref x :: st) μ := us_aload_n dX11_route_14 rfl
theorem u109_15 {d : Nat} {R : gR} {μ : gM} {L : List Value} {st : List Value}   : gc_W (gc_S d) cX11_route 11 0 R 15 L st μ ↔ gc_W (gc_S d) cX11_route 11 0 R 16 L (.int 1 :: st) μ := us_iconst dX11_route_15 ci_iconst_1
theorem u109_16 {d : Nat} {R : gR} {μ : gM} {L : List Value} {o : Nat} {a0 : Int32} (hk : gc_kd o = 11) : gc_W (gc_S d) cX11_route 11 0 R 16 L [.int a0, .ref o] μ ↔ gc_S d 75 [.ref o, .int a0] μ (fun v μ' => gc_W (gc_S d) cX11_route 11 0 R 19 L (v.toList ++ []) μ') := us_virt dX11_route_16 gn_11_88 gc_11_88_11 hk rfl rfl rfl rfl rfl
theorem u109_19 {d : Nat} {R : gR} {μ : gM} {L : List Value} {v : Int32}  : gc_W (gc_S d) cX11_route 11 0 R 19 L [.int v] μ ↔ R (some (.int v)) μ := us_iret dX11_route_19 rfl
theorem u109_20 {d : Nat} {R : gR} {μ : gM} {l1 l2 l3 l4 : Value} {st : List Value} {x : Nat}  : gc_W (gc_S d) cX11_route 11 0 R 20 [.ref x, l1, l2, l3, l4] st μ ↔ gc_W (gc_S d) cX11_route 11 0 R 21 [.ref x, l1, l2, l3, l4] (.ref x :: st) μ := us_aload_n dX11_route_20 rfl
theorem u109_21 {d : Nat} {R : gR} {μ : gM} {L : List Value} {st : List Value} {o : Nat} (hk : gc_kd o = 11) : gc_W (gc_S d) cX11_route 11 0 R 21 L (.ref o :: st) μ ↔ gc_W (gc_S d) cX11_route 11 0 R 24 L (gc_fv o 0 μ :: st) μ := us_getf dX11_route_21 gf_11_38 hk
theorem u109_24 {d : Nat} {R : gR} {μ : gM} {L : List Value} {st : List Value} {o : Nat} (hk : gc_kd o = 0) : gc_W (gc_S d) cX11_route 11 0 R 24 L (.ref o :: st) μ ↔ gc_W (gc_S d) cX11_route 11 0 R 27 L (gc_fv o 11 μ :: st) μ := us_getf dX11_route_24 gf_11_95 hk
theorem u109_27 {d : Nat} {R : gR} {μ : gM} {l0 l2 l3 l4 : Value} {st : List Value} {x : Int32}  : gc_W (gc_S d) cX11_route 11 0 R 27 [l0, .int x, l2, l3, l4] st μ ↔ gc_W (gc_S d) cX11_route 11 0 R 28 [l0, .int x, l2, l3, l4] (.int x :: st) μ := us_iload_n dX11_route_27 rfl
theorem u109_28 {d : Nat} {R : gR} {μ : gM} {L : List Value} {st : List Value} {x y : Int32}  : gc_W (gc_S d) cX11_route 11 0 R 28 L (.int y :: .int x :: st) μ ↔ gc_W (gc_S d) cX11_route 11 0 R 29 L (.int (x >>> (y &&& 31)) :: st) μ := us_ishr dX11_route_28
theorem u109_29 {d : Nat} {R : gR} {μ : gM} {L : List Value} {st : List Value}   : gc_W (gc_S d) cX11_route 11 0 R 29 L st μ ↔ gc_W (gc_S d) cX11_route 11 0 R 30 L (.int 1 :: st) μ := us_iconst dX11_route_29 ci_iconst_1
theorem u109_30 {d : Nat} {R : gR} {μ : gM} {L : List Value} {st : List Value} {x y : Int32}  : gc_W (gc_S d) cX11_route 11 0 R 30 L (.int y :: .int x :: st) μ ↔ gc_W (gc_S d) cX11_route 11 0 R 31 L (.int (x &&& y) :: st) μ := us_iand dX11_route_30
theorem u109_31 {d : Nat} {R : gR} {μ : gM} {L : List Value} {st : List Value}   : gc_W (gc_S d) cX11_route 11 0 R 31 L st μ ↔ gc_W (gc_S d) cX11_route 11 0 R 32 L (.int 1 :: st) μ := us_iconst dX11_route_31 ci_iconst_1
theorem u109_32 {d : Nat} {R : gR} {μ : gM} {L : List Value} {st : List Value} {x y : Int32}  : gc_W (gc_S d) cX11_route 11 0 R 32 L (.int y :: .int x :: st) μ ↔ if x = y then gc_W (gc_S d) cX11_route 11 0 R 50 L st μ else gc_W (gc_S d) cX11_route 11 0 R 35 L st μ := us_iceq dX11_route_32 rfl
theorem u109_35 {d : Nat} {R : gR} {μ : gM} {l1 l2 l3 l4 : Value} {st : List Value} {x : Nat}  : gc_W (gc_S d) cX11_route 11 0 R 35 [.ref x, l1, l2, l3, l4] st μ ↔ gc_W (gc_S d) cX11_route 11 0 R 36 [.ref x, l1, l2, l3, l4] (.ref x :: st) μ := us_aload_n dX11_route_35 rfl
theorem u109_36 {d : Nat} {R : gR} {μ : gM} {L : List Value} {st : List Value} {o : Nat} (hk : gc_kd o = 11) : gc_W (gc_S d) cX11_route 11 0 R 36 L (.ref o :: st) μ ↔ gc_W (gc_S d) cX11_route 11 0 R 39 L (gc_fv o 0 μ :: st) μ := us_getf dX11_route_36 gf_11_38 hk
theorem u109_39 {d : Nat} {R : gR} {μ : gM} {L : List Value} {st : List Value} {o : Nat} (hk : gc_kd o = 0) : gc_W (gc_S d) cX11_route 11 0 R 39 L (.ref o :: st) μ ↔ gc_W (gc_S d) cX11_route 11 0 R 42 L (gc_fv o 11 μ :: st) μ := us_getf dX11_route_39 gf_11_95 hk
theorem u109_42 {d : Nat} {R : gR} {μ : gM} {l0 l1 l3 l4 : Value} {st : List Value} {x : Int32}  : gc_W (gc_S d) cX11_route 11 0 R 42 [l0, l1, .int x, l3, l4] st μ ↔ gc_W (gc_S d) cX11_route 11 0 R 43 [l0, l1, .int x, l3, l4] (.int x :: st) μ := us_iload_n dX11_route_42 rfl
theorem u109_43 {d : Nat} {R : gR} {μ : gM} {L : List Value} {st : List Value} {x y : Int32}  : gc_W (gc_S d) cX11_route 11 0 R 43 L (.int y :: .int x :: st) μ ↔ gc_W (gc_S d) cX11_route 11 0 R 44 L (.int (x >>> (y &&& 31)) :: st) μ := us_ishr dX11_route_43
theorem u109_44 {d : Nat} {R : gR} {μ : gM} {L : List Value} {st : List Value}   : gc_W (gc_S d) cX11_route 11 0 R 44 L st μ ↔ gc_W (gc_S d) cX11_route 11 0 R 45 L (.int 1 :: st) μ := us_iconst dX11_route_44 ci_iconst_1
theorem u109_45 {d : Nat} {R : gR} {μ : gM} {L : List Value} {st : List Value} {x y : Int32}  : gc_W (gc_S d) cX11_route 11 0 R 45 L (.int y :: .int x :: st) μ ↔ gc_W (gc_S d) cX11_route 11 0 R 46 L (.int (x &&& y) :: st) μ := us_iand dX11_route_45
theorem u109_46 {d : Nat} {R : gR} {μ : gM} {L : List Value} {st : List Value}   : gc_W (gc_S d) cX11_route 11 0 R 46 L st μ ↔ gc_W (gc_S d) cX11_route 11 0 R 47 L (.int 1 :: st) μ := us_iconst dX11_route_46 ci_iconst_1
theorem u109_47 {d : Nat} {R : gR} {μ : gM} {L : List Value} {st : List Value} {x y : Int32}  : gc_W (gc_S d) cX11_route 11 0 R 47 L (.int y :: .int x :: st) μ ↔ if x = y then gc_W (gc_S d) cX11_route 11 0 R 50 L st μ else gc_W (gc_S d) cX11_route 11 0 R 56 L st μ := us_icne dX11_route_47 rfl
theorem u109_50 {d : Nat} {R : gR} {μ : gM} {l1 l2 l3 l4 : Value} {st : List Value} {x : Nat}  : gc_W (gc_S d) cX11_route 11 0 R 50 [.ref x, l1, l2, l3, l4] st μ ↔ gc_W (gc_S d) cX11_route 11 0 R 51 [.ref x, l1, l2, l3, l4] (.ref x :: st) μ := us_aload_n dX11_route_50 rfl
theorem u109_51 {d : Nat} {R : gR} {μ : gM} {L : List Value} {st : List Value}   : gc_W (gc_S d) cX11_route 11 0 R 51 L st μ ↔ gc_W (gc_S d) cX11_route 11 0 R 52 L (.int 3 :: st) μ := us_iconst dX11_route_51 ci_iconst_3
theorem u109_52 {d : Nat} {R : gR} {μ : gM} {L : List Value} {o : Nat} {a0 : Int32} (hk : gc_kd o = 11) : gc_W (gc_S d) cX11_route 11 0 R 52 L [.int a0, .ref o] μ ↔ gc_S d 75 [.ref o, .int a0] μ (fun v μ' => gc_W (gc_S d) cX11_route 11 0 R 55 L (v.toList ++ []) μ') := us_virt dX11_route_52 gn_11_88 gc_11_88_11 hk rfl rfl rfl rfl rfl
theorem u109_55 {d : Nat} {R : gR} {μ : gM} {L : List Value} {v : Int32}  : gc_W (gc_S d) cX11_route 11 0 R 55 L [.int v] μ ↔ R (some (.int v)) μ := us_iret dX11_route_55 rfl
theorem u109_56 {d : Nat} {R : gR} {μ : gM} {L : List Value} {st : List Value}   : gc_W (gc_S d) cX11_route 11 0 R 56 L st μ ↔ gc_W (gc_S d) cX11_route 11 0 R 57 L (.int 1 :: st) μ := us_iconst dX11_route_56 ci_iconst_1
theorem u109_57 {d : Nat} {R : gR} {μ : gM} {l0 l2 l3 l4 : Value} {st : List Value} {x : Int32}  : gc_W (gc_S d) cX11_route 11 0 R 57 [l0, .int x, l2, l3, l4] st μ ↔ gc_W (gc_S d) cX11_route 11 0 R 58 [l0, .int x, l2, l3, l4] (.int x :: st) μ := us_iload_n dX11_route_57 rfl
theorem u109_58 {d : Nat} {R : gR} {μ : gM} {L : List Value} {st : List Value} {x y : Int32}  : gc_W (gc_S d) cX11_route 11 0 R 58 L (.int y :: .int x :: st) μ ↔ gc_W (gc_S d) cX11_route 11 0 R 59 L (.int (x <<< (y &&& 31)) :: st) μ := us_ishl dX11_route_58
theorem u109_59 {d : Nat} {R : gR} {μ : gM} {l0 l1 l2 l3 l4 : Value} {st : List Value} {x : Int32} (hs : gc_sk l3 = true) : gc_W (gc_S d) cX11_route 11 0 R 59 [l0, l1, l2, l3, l4] (.int x :: st) μ ↔ gc_W (gc_S d) cX11_route 11 0 R 60 [l0, l1, l2, .int x, l4] st μ := us_istore_n dX11_route_59 rfl hs
theorem u109_60 {d : Nat} {R : gR} {μ : gM} {L : List Value} {st : List Value}   : gc_W (gc_S d) cX11_route 11 0 R 60 L st μ ↔ gc_W (gc_S d) cX11_route 11 0 R 61 L (.int 0 :: st) μ := us_iconst dX11_route_60 ci_iconst_0
theorem u109_61 {d : Nat} {R : gR} {μ : gM} {l0 l1 l2 l3 l4 : Value} {st : List Value} {x : Int32} (hs : gc_sk l4 = true) : gc_W (gc_S d) cX11_route 11 0 R 61 [l0, l1, l2, l3, l4] (.int x :: st) μ ↔ gc_W (gc_S d) cX11_route 11 0 R 63 [l0, l1, l2, l3, .int x] st μ := us_istore dX11_route_61 rfl hs
theorem u109_63 {d : Nat} {R : gR} {μ : gM} {l0 l1 l2 l3 : Value} {st : List Value} {x : Int32}  : gc_W (gc_S d) cX11_route 11 0 R 63 [l0, l1, l2, l3, .int x] st μ ↔ gc_W (gc_S d) cX11_route 11 0 R 65 [l0, l1, l2, l3, .int x] (.int x :: st) μ := us_iload dX11_route_63 rfl
theorem u109_65 {d : Nat} {R : gR} {μ : gM} {L : List Value} {st : List Value}   : gc_W (gc_S d) cX11_route 11 0 R 65 L st μ ↔ gc_W (gc_S d) cX11_route 11 0 R 67 L (.int 16 :: st) μ := us_bipush dX11_route_65 ci_bipush_16
theorem u109_67 {d : Nat} {R : gR} {μ : gM} {L : List Value} {st : List Value} {x y : Int32}  : gc_W (gc_S d) cX11_route 11 0 R 67 L (.int y :: .int x :: st) μ ↔ if y ≤ x then gc_W (gc_S d) cX11_route 11 0 R 101 L st μ else gc_W (gc_S d) cX11_route 11 0 R 70 L st μ := us_icge dX11_route_67 rfl
theorem u109_70 {d : Nat} {R : gR} {μ : gM} {l0 l1 l2 l4 : Value} {st : List Value} {x : Int32}  : gc_W (gc_S d) cX11_route 11 0 R 70 [l0, l1, l2, .int x, l4] st μ ↔ gc_W (gc_S d) cX11_route 11 0 R 71 [l0, l1, l2, .int x, l4] (.int x :: st) μ := us_iload_n dX11_route_70 rfl
theorem u109_71 {d : Nat} {R : gR} {μ : gM} {l0 l1 l3 l4 : Value} {st : List Value} {x : Int32}  : gc_W (gc_S d) cX11_route 11 0 R 71 [l0, l1, .int x, l3, l4] st μ ↔ gc_W (gc_S d) cX11_route 11 0 R 72 [l0, l1, .int x, l3, l4] (.int x :: st) μ := us_iload_n dX11_route_71 rfl
theorem u109_72 {d : Nat} {R : gR} {μ : gM} {L : List Value} {st : List Value} {x y : Int32}  : gc_W (gc_S d) cX11_route 11 0 R 72 L (.int y :: .int x :: st) μ ↔ gc_W (gc_S d) cX11_route 11 0 R 73 L (.int (x >>> (y &&& 31)) :: st) μ := us_ishr dX11_route_72
theorem u109_73 {d : Nat} {R : gR} {μ : gM} {L : List Value} {st : List Value}   : gc_W (gc_S d) cX11_route 11 0 R 73 L st μ ↔ gc_W (gc_S d) cX11_route 11 0 R 74 L (.int 1 :: st) μ := us_iconst dX11_route_73 ci_iconst_1
theorem u109_74 {d : Nat} {R : gR} {μ : gM} {L : List Value} {st : List Value} {x y : Int32}  : gc_W (gc_S d) cX11_route 11 0 R 74 L (.int y :: .int x :: st) μ ↔ gc_W (gc_S d) cX11_route 11 0 R 75 L (.int (x &&& y) :: st) μ := us_iand dX11_route_74
theorem u109_75 {d : Nat} {R : gR} {μ : gM} {L : List Value} {st : List Value}   : gc_W (gc_S d) cX11_route 11 0 R 75 L st μ ↔ gc_W (gc_S d) cX11_route 11 0 R 76 L (.int 1 :: st) μ := us_iconst dX11_route_75 ci_iconst_1
theorem u109_76 {d : Nat} {R : gR} {μ : gM} {L : List Value} {st : List Value} {x y : Int32}  : gc_W (gc_S d) cX11_route 11 0 R 76 L (.int y :: .int x :: st) μ ↔ if x = y then gc_W (gc_S d) cX11_route 11 0 R 79 L st μ else gc_W (gc_S d) cX11_route 11 0 R 82 L st μ := us_icne dX11_route_76 rfl
theorem u109_79 {d : Nat} {R : gR} {μ : gM} {l0 l1 l2 l3 : Value} {st : List Value} {x : Int32}  : gc_W (gc_S d) cX11_route 11 0 R 79 [l0, l1, l2, l3, .int x] st μ ↔ gc_W (gc_S d) cX11_route 11 0 R 81 [l0, l1, l2, l3, .int x] (.int x :: st) μ := us_iload dX11_route_79 rfl
theorem u109_81 {d : Nat} {R : gR} {μ : gM} {L : List Value} {v : Int32}  : gc_W (gc_S d) cX11_route 11 0 R 81 L [.int v] μ ↔ R (some (.int v)) μ := us_iret dX11_route_81 rfl
theorem u109_82 {d : Nat} {R : gR} {μ : gM} {l0 l1 l2 l4 : Value} {st : List Value} {x : Int32}  : gc_W (gc_S d) cX11_route 11 0 R 82 [l0, l1, l2, .int x, l4] st μ ↔ gc_W (gc_S d) cX11_route 11 0 R 83 [l0, l1, l2, .int x, l4] (.int x :: st) μ := us_iload_n dX11_route_82 rfl
theorem u109_83 {d : Nat} {R : gR} {μ : gM} {L : List Value}  {a0 : Int32}  : gc_W (gc_S d) cX11_route 11 0 R 83 L [.int a0] μ ↔ gc_S d 28 [.int a0] μ (fun v μ' => gc_W (gc_S d) cX11_route 11 0 R 86 L (v.toList ++ []) μ') := us_stat dX11_route_83 gs_11_217 gne_11_217 gn_11_217 gc_11_217_97 rfl rfl rfl rfl
theorem u109_86 {d : Nat} {R : gR} {μ : gM} {l1 l2 l3 l4 : Value} {st : List Value} {x : Nat}  : gc_W (gc_S d) cX11_route 11 0 R 86 [.ref x, l1, l2, l3, l4] st μ ↔ gc_W (gc_S d) cX11_route 11 0 R 87 [.ref x, l1, l2, l3, l4] (.ref x :: st) μ := us_aload_n dX11_route_86 rfl
theorem u109_87 {d : Nat} {R : gR} {μ : gM} {L : List Value} {st : List Value} {o : Nat} (hk : gc_kd o = 11) : gc_W (gc_S d) cX11_route 11 0 R 87 L (.ref o :: st) μ ↔ gc_W (gc_S d) cX11_route 11 0 R 90 L (gc_fv o 0 μ :: st) μ := us_getf dX11_route_87 gf_11_38 hk
theorem u109_90 {d : Nat} {R : gR} {μ : gM} {L : List Value} {o : Nat} {s0 : Value} (hk : gc_kd o = 0) : gc_W (gc_S d) cX11_route 11 0 R 90 L [.ref o, s0] μ ↔ gc_S d 4 [.ref o] μ (fun v μ' => gc_W (gc_S d) cX11_route 11 0 R 93 L (v.toList ++ [s0]) μ') := us_virt dX11_route_90 gn_11_220 gc_11_220_0 hk rfl rfl rfl rfl rfl
theorem u109_93 {d : Nat} {R : gR} {μ : gM} {L : List Value} {st : List Value} {x y : Int32}  : gc_W (gc_S d) cX11_route 11 0 R 93 L (.int y :: .int x :: st) μ ↔ gc_W (gc_S d) cX11_route 11 0 R 94 L (.int (x &&& y) :: st) μ := us_iand dX11_route_93
theorem u109_94 {d : Nat} {R : gR} {μ : gM} {l0 l1 l2 l3 l4 : Value} {st : List Value} {x : Int32} (hs : gc_sk l3 = true) : gc_W (gc_S d) cX11_route 11 0 R 94 [l0, l1, l2, l3, l4] (.int x :: st) μ ↔ gc_W (gc_S d) cX11_route 11 0 R 95 [l0, l1, l2, .int x, l4] st μ := us_istore_n dX11_route_94 rfl hs
theorem u109_95 {d : Nat} {R : gR} {μ : gM} {l0 l1 l2 l3 : Value} {st : List Value} {x : Int32}  : gc_W (gc_S d) cX11_route 11 0 R 95 [l0, l1, l2, l3, .int x] st μ ↔ gc_W (gc_S d) cX11_route 11 0 R 98 [l0, l1, l2, l3, .int (x + 1)] st μ := us_iinc dX11_route_95 rfl ci_iinc_1
theorem u109_98 {d : Nat} {R : gR} {μ : gM} {L : List Value} {st : List Value}  : gc_W (gc_S d) cX11_route 11 0 R 98 L st μ ↔ gc_W (gc_S d) cX11_route 11 0 R 63 L st μ := us_goto dX11_route_98 rfl
theorem u109_101 {d : Nat} {R : gR} {μ : gM} {l1 l2 l3 l4 : Value} {st : List Value} {x : Nat}  : gc_W (gc_S d) cX11_route 11 0 R 101 [.ref x, l1, l2, l3, l4] st μ ↔ gc_W (gc_S d) cX11_route 11 0 R 102 [.ref x, l1, l2, l3, l4] (.ref x :: st) μ := us_aload_n dX11_route_101 rfl
theorem u109_102 {d : Nat} {R : gR} {μ : gM} {L : List Value} {st : List Value}   : gc_W (gc_S d) cX11_route 11 0 R 102 L st μ ↔ gc_W (gc_S d) cX11_route 11 0 R 103 L (.int 2 :: st) μ := us_iconst dX11_route_102 ci_iconst_2
theorem u109_103 {d : Nat} {R : gR} {μ : gM} {L : List Value} {o : Nat} {a0 : Int32} (hk : gc_kd o = 11) : gc_W (gc_S d) cX11_route 11 0 R 103 L [.int a0, .ref o] μ ↔ gc_S d 75 [.ref o, .int a0] μ (fun v μ' => gc_W (gc_S d) cX11_route 11 0 R 106 L (v.toList ++ []) μ') := us_virt dX11_route_103 gn_11_88 gc_11_88_11 hk rfl rfl rfl rfl rfl
theorem u109_106 {d : Nat} {R : gR} {μ : gM} {L : List Value} {v : Int32}  : gc_W (gc_S d) cX11_route 11 0 R 106 L [.int v] μ ↔ R (some (.int v)) μ := us_iret dX11_route_106 rfl
theorem s109 {d : Nat} {R : gR} {μ : gM} {o : Nat} {a0 a1 : Int32} : gc_S (d + 1) 109 [.ref o, .int a0, .int a1] μ R ↔ gc_W (gc_S d) cX11_route 11 0 R 0 [.ref o, .int a0, .int a1, .retAddr 0, .retAddr 0] [] μ := us_call (gm_109) rfl rfl
theorem dX11_partOfLeast_0 : decode cX11_partOfLeast 0 = .ok (.iload_n 0, 1) := by decide +kernel
theorem dX11_partOfLeast_1 : decode cX11_partOfLeast 1 = .ok (.iload_n 0, 1) := by decide +kernel
theorem dX11_partOfLeast_2 : decode cX11_partOfLeast 2 = .ok (.ineg, 1) := by decide +kernel
theorem dX11_partOfLeast_3 : decode cX11_partOfLeast 3 = .ok (.iand, 1) := by decide +kernel
theorem dX11_partOfLeast_4 : decode cX11_partOfLeast 4 = .ok (.istore_n 1, 1) := by decide +kernel
theorem dX11_partOfLeast_5 : decode cX11_partOfLeast 5 = .ok (.iconst 0, 1) := by decide +kernel
theorem dX11_partOfLeast_6 : decode cX11_partOfLeast 6 = .ok (.istore_n 2, 1) := by decide +kernel
theorem dX11_partOfLeast_7 : decode cX11_partOfLeast 7 = .ok (.iload_n 2, 1) := by decide +kernel
theorem dX11_partOfLeast_8 : decode cX11_partOfLeast 8 = .ok (.bipush 16, 2) := by decide +kernel
theorem dX11_partOfLeast_10 : decode cX11_partOfLeast 10 = .ok (.if_icmp .ge 26, 3) := by decide +kernel
theorem dX11_partOfLeast_13 : decode cX11_partOfLeast 13 = .ok (.iload_n 1, 1) := by decide +kernel
theorem dX11_partOfLeast_14 : decode cX11_partOfLeast 14 = .ok (.invokestatic 217, 3) := by decide +kernel
theorem dX11_partOfLeast_17 : decode cX11_partOfLeast 17 = .ok (.iload_n 0, 1) := by decide +kernel
theorem dX11_partOfLeast_18 : decode cX11_partOfLeast 18 = .ok (.iand, 1) := by decide +kernel
theorem dX11_partOfLeast_19 : decode cX11_partOfLeast 19 = .ok (.istore_n 3, 1) := by decide +kernel
theorem dX11_partOfLeast_20 : decode cX11_partOfLeast 20 = .ok (.iload_n 3, 1) := by decide +kernel
theorem dX11_partOfLeast_21 : decode cX11_partOfLeast 21 = .ok (.iload_n 1, 1) := by decide +kernel
theorem dX11_partOfLeast_22 : decode cX11_partOfLeast 22 = .ok (.if_icmp .ne 6, 3) := by decide +kernel
theorem dX11_partOfLeast_25 : decode cX11_partOfLeast 25 = .ok (.goto 11, 3) := by decide +kernel
theorem dX11_partOfLeast_28 : decode cX11_partOfLeast 28 = .ok (.iload_n 3, 1) := by decide +kernel
theorem dX11_partOfLeast_29 : decode cX11_partOfLeast 29 = .ok (.istore_n 1, 1) := by decide +kernel
theorem dX11_partOfLeast_30 : decode cX11_partOfLeast 30 = .ok (.iinc 2 1, 3) := by decide +kernel
theorem dX11_partOfLeast_33 : decode cX11_partOfLeast 33 = .ok (.goto (-26), 3) := by decide +kernel
theorem dX11_partOfLeast_36 : decode cX11_partOfLeast 36 = .ok (.iload_n 1, 1) := by decide +kernel
theorem dX11_partOfLeast_37 : decode cX11_partOfLeast 37 = .ok (.ireturn, 1) := by decide +kernel
theorem u110_0 {d : Nat} {R : gR} {μ : gM} {l1 l2 l3 : Value} {st : List Value} {x : Int32}  : gc_W (gc_S d) cX11_partOfLeast 11 0 R 0 [.int x, l1, l2, l3] st μ ↔ gc_W (gc_S d) cX11_partOfLeast 11 0 R 1 [.int x, l1, l2, l3] (.int x :: st) μ := us_iload_n dX11_partOfLeast_0 rfl
theorem u110_1 {d : Nat} {R : gR} {μ : gM} {l1 l2 l3 : Value} {st : List Value} {x : Int32}  : gc_W (gc_S d) cX11_partOfLeast 11 0 R 1 [.int x, l1, l2, l3] st μ ↔ gc_W (gc_S d) cX11_partOfLeast 11 0 R 2 [.int x, l1, l2, l3] (.int x :: st) μ := us_iload_n dX11_partOfLeast_1 rfl
theorem u110_2 {d : Nat} {R : gR} {μ : gM} {L : List Value} {st : List Value} {x : Int32}  : gc_W (gc_S d) cX11_partOfLeast 11 0 R 2 L (.int x :: st) μ ↔ gc_W (gc_S d) cX11_partOfLeast 11 0 R 3 L (.int (-x) :: st) μ := us_ineg dX11_partOfLeast_2
theorem u110_3 {d : Nat} {R : gR} {μ : gM} {L : List Value} {st : List Value} {x y : Int32}  : gc_W (gc_S d) cX11_partOfLeast 11 0 R 3 L (.int y :: .int x :: st) μ ↔ gc_W (gc_S d) cX11_partOfLeast 11 0 R 4 L (.int (x &&& y) :: st) μ := us_iand dX11_partOfLeast_3
theorem u110_4 {d : Nat} {R : gR} {μ : gM} {l0 l1 l2 l3 : Value} {st : List Value} {x : Int32} (hs : gc_sk l1 = true) : gc_W (gc_S d) cX11_partOfLeast 11 0 R 4 [l0, l1, l2, l3] (.int x :: st) μ ↔ gc_W (gc_S d) cX11_partOfLeast 11 0 R 5 [l0, .int x, l2, l3] st μ := us_istore_n dX11_partOfLeast_4 rfl hs
theorem u110_5 {d : Nat} {R : gR} {μ : gM} {L : List Value} {st : List Value}   : gc_W (gc_S d) cX11_partOfLeast 11 0 R 5 L st μ ↔ gc_W (gc_S d) cX11_partOfLeast 11 0 R 6 L (.int 0 :: st) μ := us_iconst dX11_partOfLeast_5 ci_iconst_0
theorem u110_6 {d : Nat} {R : gR} {μ : gM} {l0 l1 l2 l3 : Value} {st : List Value} {x : Int32} (hs : gc_sk l2 = true) : gc_W (gc_S d) cX11_partOfLeast 11 0 R 6 [l0, l1, l2, l3] (.int x :: st) μ ↔ gc_W (gc_S d) cX11_partOfLeast 11 0 R 7 [l0, l1, .int x, l3] st μ := us_istore_n dX11_partOfLeast_6 rfl hs
theorem u110_7 {d : Nat} {R : gR} {μ : gM} {l0 l1 l3 : Value} {st : List Value} {x : Int32}  : gc_W (gc_S d) cX11_partOfLeast 11 0 R 7 [l0, l1, .int x, l3] st μ ↔ gc_W (gc_S d) cX11_partOfLeast 11 0 R 8 [l0, l1, .int x, l3] (.int x :: st) μ := us_iload_n dX11_partOfLeast_7 rfl
theorem u110_8 {d : Nat} {R : gR} {μ : gM} {L : List Value} {st : List Value}   : gc_W (gc_S d) cX11_partOfLeast 11 0 R 8 L st μ ↔ gc_W (gc_S d) cX11_partOfLeast 11 0 R 10 L (.int 16 :: st) μ := us_bipush dX11_partOfLeast_8 ci_bipush_16
theorem u110_10 {d : Nat} {R : gR} {μ : gM} {L : List Value} {st : List Value} {x y : Int32}  : gc_W (gc_S d) cX11_partOfLeast 11 0 R 10 L (.int y :: .int x :: st) μ ↔ if y ≤ x then gc_W (gc_S d) cX11_partOfLeast 11 0 R 36 L st μ else gc_W (gc_S d) cX11_partOfLeast 11 0 R 13 L st μ := us_icge dX11_partOfLeast_10 rfl
theorem u110_13 {d : Nat} {R : gR} {μ : gM} {l0 l2 l3 : Value} {st : List Value} {x : Int32}  : gc_W (gc_S d) cX11_partOfLeast 11 0 R 13 [l0, .int x, l2, l3] st μ ↔ gc_W (gc_S d) cX11_partOfLeast 11 0 R 14 [l0, .int x, l2, l3] (.int x :: st) μ := us_iload_n dX11_partOfLeast_13 rfl
theorem u110_14 {d : Nat} {R : gR} {μ : gM} {L : List Value}  {a0 : Int32}  : gc_W (gc_S d) cX11_partOfLeast 11 0 R 14 L [.int a0] μ ↔ gc_S d 28 [.int a0] μ (fun v μ' => gc_W (gc_S d) cX11_partOfLeast 11 0 R 17 L (v.toList ++ []) μ') := us_stat dX11_partOfLeast_14 gs_11_217 gne_11_217 gn_11_217 gc_11_217_97 rfl rfl rfl rfl
theorem u110_17 {d : Nat} {R : gR} {μ : gM} {l1 l2 l3 : Value} {st : List Value} {x : Int32}  : gc_W (gc_S d) cX11_partOfLeast 11 0 R 17 [.int x, l1, l2, l3] st μ ↔ gc_W (gc_S d) cX11_partOfLeast 11 0 R 18 [.int x, l1, l2, l3] (.int x :: st) μ := us_iload_n dX11_partOfLeast_17 rfl
theorem u110_18 {d : Nat} {R : gR} {μ : gM} {L : List Value} {st : List Value} {x y : Int32}  : gc_W (gc_S d) cX11_partOfLeast 11 0 R 18 L (.int y :: .int x :: st) μ ↔ gc_W (gc_S d) cX11_partOfLeast 11 0 R 19 L (.int (x &&& y) :: st) μ := us_iand dX11_partOfLeast_18
theorem u110_19 {d : Nat} {R : gR} {μ : gM} {l0 l1 l2 l3 : Value} {st : List Value} {x : Int32} (hs : gc_sk l3 = true) : gc_W (gc_S d) cX11_partOfLeast 11 0 R 19 [l0, l1, l2, l3] (.int x :: st) μ ↔ gc_W (gc_S d) cX11_partOfLeast 11 0 R 20 [l0, l1, l2, .int x] st μ := us_istore_n dX11_partOfLeast_19 rfl hs
theorem u110_20 {d : Nat} {R : gR} {μ : gM} {l0 l1 l2 : Value} {st : List Value} {x : Int32}  : gc_W (gc_S d) cX11_partOfLeast 11 0 R 20 [l0, l1, l2, .int x] st μ ↔ gc_W (gc_S d) cX11_partOfLeast 11 0 R 21 [l0, l1, l2, .int x] (.int x :: st) μ := us_iload_n dX11_partOfLeast_20 rfl
theorem u110_21 {d : Nat} {R : gR} {μ : gM} {l0 l2 l3 : Value} {st : List Value} {x : Int32}  : gc_W (gc_S d) cX11_partOfLeast 11 0 R 21 [l0, .int x, l2, l3] st μ ↔ gc_W (gc_S d) cX11_partOfLeast 11 0 R 22 [l0, .int x, l2, l3] (.int x :: st) μ := us_iload_n dX11_partOfLeast_21 rfl
theorem u110_22 {d : Nat} {R : gR} {μ : gM} {L : List Value} {st : List Value} {x y : Int32}  : gc_W (gc_S d) cX11_partOfLeast 11 0 R 22 L (.int y :: .int x :: st) μ ↔ if x = y then gc_W (gc_S d) cX11_partOfLeast 11 0 R 25 L st μ else gc_W (gc_S d) cX11_partOfLeast 11 0 R 28 L st μ := us_icne dX11_partOfLeast_22 rfl
theorem u110_25 {d : Nat} {R : gR} {μ : gM} {L : List Value} {st : List Value}  : gc_W (gc_S d) cX11_partOfLeast 11 0 R 25 L st μ ↔ gc_W (gc_S d) cX11_partOfLeast 11 0 R 36 L st μ := us_goto dX11_partOfLeast_25 rfl
theorem u110_28 {d : Nat} {R : gR} {μ : gM} {l0 l1 l2 : Value} {st : List Value} {x : Int32}  : gc_W (gc_S d) cX11_partOfLeast 11 0 R 28 [l0, l1, l2, .int x] st μ ↔ gc_W (gc_S d) cX11_partOfLeast 11 0 R 29 [l0, l1, l2, .int x] (.int x :: st) μ := us_iload_n dX11_partOfLeast_28 rfl
theorem u110_29 {d : Nat} {R : gR} {μ : gM} {l0 l1 l2 l3 : Value} {st : List Value} {x : Int32} (hs : gc_sk l1 = true) : gc_W (gc_S d) cX11_partOfLeast 11 0 R 29 [l0, l1, l2, l3] (.int x :: st) μ ↔ gc_W (gc_S d) cX11_partOfLeast 11 0 R 30 [l0, .int x, l2, l3] st μ := us_istore_n dX11_partOfLeast_29 rfl hs
theorem u110_30 {d : Nat} {R : gR} {μ : gM} {l0 l1 l3 : Value} {st : List Value} {x : Int32}  : gc_W (gc_S d) cX11_partOfLeast 11 0 R 30 [l0, l1, .int x, l3] st μ ↔ gc_W (gc_S d) cX11_partOfLeast 11 0 R 33 [l0, l1, .int (x + 1), l3] st μ := us_iinc dX11_partOfLeast_30 rfl ci_iinc_1
theorem u110_33 {d : Nat} {R : gR} {μ : gM} {L : List Value} {st : List Value}  : gc_W (gc_S d) cX11_partOfLeast 11 0 R 33 L st μ ↔ gc_W (gc_S d) cX11_partOfLeast 11 0 R 7 L st μ := us_goto dX11_partOfLeast_33 rfl
theorem u110_36 {d : Nat} {R : gR} {μ : gM} {l0 l2 l3 : Value} {st : List Value} {x : Int32}  : gc_W (gc_S d) cX11_partOfLeast 11 0 R 36 [l0, .int x, l2, l3] st μ ↔ gc_W (gc_S d) cX11_partOfLeast 11 0 R 37 [l0, .int x, l2, l3] (.int x :: st) μ := us_iload_n dX11_partOfLeast_36 rfl
theorem u110_37 {d : Nat} {R : gR} {μ : gM} {L : List Value} {v : Int32}  : gc_W (gc_S d) cX11_partOfLeast 11 0 R 37 L [.int v] μ ↔ R (some (.int v)) μ := us_iret dX11_partOfLeast_37 rfl
theorem s110 {d : Nat} {R : gR} {μ : gM} {a0 : Int32} : gc_S (d + 1) 110 [.int a0] μ R ↔ gc_W (gc_S d) cX11_partOfLeast 11 0 R 0 [.int a0, .retAddr 0, .retAddr 0, .retAddr 0] [] μ := us_call (gm_110) rfl rfl
theorem dX11_partsOf_0 : decode cX11_partsOf 0 = .ok (.iload_n 0, 1) := by decide +kernel
theorem dX11_partsOf_1 : decode cX11_partsOf 1 = .ok (.istore_n 1, 1) := by decide +kernel
theorem dX11_partsOf_2 : decode cX11_partsOf 2 = .ok (.iconst 0, 1) := by decide +kernel
theorem dX11_partsOf_3 : decode cX11_partsOf 3 = .ok (.istore_n 2, 1) := by decide +kernel
theorem dX11_partsOf_4 : decode cX11_partsOf 4 = .ok (.iconst 0, 1) := by decide +kernel
theorem dX11_partsOf_5 : decode cX11_partsOf 5 = .ok (.istore_n 3, 1) := by decide +kernel
theorem dX11_partsOf_6 : decode cX11_partsOf 6 = .ok (.iload_n 3, 1) := by decide +kernel
theorem dX11_partsOf_7 : decode cX11_partsOf 7 = .ok (.bipush 16, 2) := by decide +kernel
theorem dX11_partsOf_9 : decode cX11_partsOf 9 = .ok (.if_icmp .ge 25, 3) := by decide +kernel
theorem dX11_partsOf_12 : decode cX11_partsOf 12 = .ok (.iload_n 1, 1) := by decide +kernel
theorem dX11_partsOf_13 : decode cX11_partsOf 13 = .ok (.ifCond .eq 21, 3) := by decide +kernel
theorem dX11_partsOf_16 : decode cX11_partsOf 16 = .ok (.iload_n 1, 1) := by decide +kernel
theorem dX11_partsOf_17 : decode cX11_partsOf 17 = .ok (.iload_n 1, 1) := by decide +kernel
theorem dX11_partsOf_18 : decode cX11_partsOf 18 = .ok (.invokestatic 318, 3) := by decide +kernel
theorem dX11_partsOf_21 : decode cX11_partsOf 21 = .ok (.iconst (-1), 1) := by decide +kernel
theorem dX11_partsOf_22 : decode cX11_partsOf 22 = .ok (.ixor, 1) := by decide +kernel
theorem dX11_partsOf_23 : decode cX11_partsOf 23 = .ok (.iand, 1) := by decide +kernel
theorem dX11_partsOf_24 : decode cX11_partsOf 24 = .ok (.istore_n 1, 1) := by decide +kernel
theorem dX11_partsOf_25 : decode cX11_partsOf 25 = .ok (.iinc 2 1, 3) := by decide +kernel
theorem dX11_partsOf_28 : decode cX11_partsOf 28 = .ok (.iinc 3 1, 3) := by decide +kernel
theorem dX11_partsOf_31 : decode cX11_partsOf 31 = .ok (.goto (-25), 3) := by decide +kernel
theorem dX11_partsOf_34 : decode cX11_partsOf 34 = .ok (.iload_n 2, 1) := by decide +kernel
theorem dX11_partsOf_35 : decode cX11_partsOf 35 = .ok (.ireturn, 1) := by decide +kernel
theorem u111_0 {d : Nat} {R : gR} {μ : gM} {l1 l2 l3 : Value} {st : List Value} {x : Int32}  : gc_W (gc_S d) cX11_partsOf 11 0 R 0 [.int x, l1, l2, l3] st μ ↔ gc_W (gc_S d) cX11_partsOf 11 0 R 1 [.int x, l1, l2, l3] (.int x :: st) μ := us_iload_n dX11_partsOf_0 rfl
theorem u111_1 {d : Nat} {R : gR} {μ : gM} {l0 l1 l2 l3 : Value} {st : List Value} {x : Int32} (hs : gc_sk l1 = true) : gc_W (gc_S d) cX11_partsOf 11 0 R 1 [l0, l1, l2, l3] (.int x :: st) μ ↔ gc_W (gc_S d) cX11_partsOf 11 0 R 2 [l0, .int x, l2, l3] st μ := us_istore_n dX11_partsOf_1 rfl hs
theorem u111_2 {d : Nat} {R : gR} {μ : gM} {L : List Value} {st : List Value}   : gc_W (gc_S d) cX11_partsOf 11 0 R 2 L st μ ↔ gc_W (gc_S d) cX11_partsOf 11 0 R 3 L (.int 0 :: st) μ := us_iconst dX11_partsOf_2 ci_iconst_0
theorem u111_3 {d : Nat} {R : gR} {μ : gM} {l0 l1 l2 l3 : Value} {st : List Value} {x : Int32} (hs : gc_sk l2 = true) : gc_W (gc_S d) cX11_partsOf 11 0 R 3 [l0, l1, l2, l3] (.int x :: st) μ ↔ gc_W (gc_S d) cX11_partsOf 11 0 R 4 [l0, l1, .int x, l3] st μ := us_istore_n dX11_partsOf_3 rfl hs
theorem u111_4 {d : Nat} {R : gR} {μ : gM} {L : List Value} {st : List Value}   : gc_W (gc_S d) cX11_partsOf 11 0 R 4 L st μ ↔ gc_W (gc_S d) cX11_partsOf 11 0 R 5 L (.int 0 :: st) μ := us_iconst dX11_partsOf_4 ci_iconst_0
theorem u111_5 {d : Nat} {R : gR} {μ : gM} {l0 l1 l2 l3 : Value} {st : List Value} {x : Int32} (hs : gc_sk l3 = true) : gc_W (gc_S d) cX11_partsOf 11 0 R 5 [l0, l1, l2, l3] (.int x :: st) μ ↔ gc_W (gc_S d) cX11_partsOf 11 0 R 6 [l0, l1, l2, .int x] st μ := us_istore_n dX11_partsOf_5 rfl hs
theorem u111_6 {d : Nat} {R : gR} {μ : gM} {l0 l1 l2 : Value} {st : List Value} {x : Int32}  : gc_W (gc_S d) cX11_partsOf 11 0 R 6 [l0, l1, l2, .int x] st μ ↔ gc_W (gc_S d) cX11_partsOf 11 0 R 7 [l0, l1, l2, .int x] (.int x :: st) μ := us_iload_n dX11_partsOf_6 rfl
theorem u111_7 {d : Nat} {R : gR} {μ : gM} {L : List Value} {st : List Value}   : gc_W (gc_S d) cX11_partsOf 11 0 R 7 L st μ ↔ gc_W (gc_S d) cX11_partsOf 11 0 R 9 L (.int 16 :: st) μ := us_bipush dX11_partsOf_7 ci_bipush_16
theorem u111_9 {d : Nat} {R : gR} {μ : gM} {L : List Value} {st : List Value} {x y : Int32}  : gc_W (gc_S d) cX11_partsOf 11 0 R 9 L (.int y :: .int x :: st) μ ↔ if y ≤ x then gc_W (gc_S d) cX11_partsOf 11 0 R 34 L st μ else gc_W (gc_S d) cX11_partsOf 11 0 R 12 L st μ := us_icge dX11_partsOf_9 rfl
theorem u111_12 {d : Nat} {R : gR} {μ : gM} {l0 l2 l3 : Value} {st : List Value} {x : Int32}  : gc_W (gc_S d) cX11_partsOf 11 0 R 12 [l0, .int x, l2, l3] st μ ↔ gc_W (gc_S d) cX11_partsOf 11 0 R 13 [l0, .int x, l2, l3] (.int x :: st) μ := us_iload_n dX11_partsOf_12 rfl
theorem u111_13 {d : Nat} {R : gR} {μ : gM} {L : List Value} {st : List Value} {x : Int32}  : gc_W (gc_S d) cX11_partsOf 11 0 R 13 L (.int x :: st) μ ↔ if x = 0 then gc_W (gc_S d) cX11_partsOf 11 0 R 34 L st μ else gc_W (gc_S d) cX11_partsOf 11 0 R 16 L st μ := us_ifeq dX11_partsOf_13 rfl
theorem u111_16 {d : Nat} {R : gR} {μ : gM} {l0 l2 l3 : Value} {st : List Value} {x : Int32}  : gc_W (gc_S d) cX11_partsOf 11 0 R 16 [l0, .int x, l2, l3] st μ ↔ gc_W (gc_S d) cX11_partsOf 11 0 R 17 [l0, .int x, l2, l3] (.int x :: st) μ := us_iload_n dX11_partsOf_16 rfl
theorem u111_17 {d : Nat} {R : gR} {μ : gM} {l0 l2 l3 : Value} {st : List Value} {x : Int32}  : gc_W (gc_S d) cX11_partsOf 11 0 R 17 [l0, .int x, l2, l3] st μ ↔ gc_W (gc_S d) cX11_partsOf 11 0 R 18 [l0, .int x, l2, l3] (.int x :: st) μ := us_iload_n dX11_partsOf_17 rfl
theorem u111_18 {d : Nat} {R : gR} {μ : gM} {L : List Value}  {a0 : Int32} {s0 : Value}  : gc_W (gc_S d) cX11_partsOf 11 0 R 18 L [.int a0, s0] μ ↔ gc_S d 110 [.int a0] μ (fun v μ' => gc_W (gc_S d) cX11_partsOf 11 0 R 21 L (v.toList ++ [s0]) μ') := us_stat dX11_partsOf_18 gs_11_318 gne_11_318 gn_11_318 gc_11_318_97 rfl rfl rfl rfl
theorem u111_21 {d : Nat} {R : gR} {μ : gM} {L : List Value} {st : List Value}   : gc_W (gc_S d) cX11_partsOf 11 0 R 21 L st μ ↔ gc_W (gc_S d) cX11_partsOf 11 0 R 22 L (.int (-1) :: st) μ := us_iconst dX11_partsOf_21 ci_iconst_m1
theorem u111_22 {d : Nat} {R : gR} {μ : gM} {L : List Value} {st : List Value} {x y : Int32}  : gc_W (gc_S d) cX11_partsOf 11 0 R 22 L (.int y :: .int x :: st) μ ↔ gc_W (gc_S d) cX11_partsOf 11 0 R 23 L (.int (x ^^^ y) :: st) μ := us_ixor dX11_partsOf_22
theorem u111_23 {d : Nat} {R : gR} {μ : gM} {L : List Value} {st : List Value} {x y : Int32}  : gc_W (gc_S d) cX11_partsOf 11 0 R 23 L (.int y :: .int x :: st) μ ↔ gc_W (gc_S d) cX11_partsOf 11 0 R 24 L (.int (x &&& y) :: st) μ := us_iand dX11_partsOf_23
theorem u111_24 {d : Nat} {R : gR} {μ : gM} {l0 l1 l2 l3 : Value} {st : List Value} {x : Int32} (hs : gc_sk l1 = true) : gc_W (gc_S d) cX11_partsOf 11 0 R 24 [l0, l1, l2, l3] (.int x :: st) μ ↔ gc_W (gc_S d) cX11_partsOf 11 0 R 25 [l0, .int x, l2, l3] st μ := us_istore_n dX11_partsOf_24 rfl hs
theorem u111_25 {d : Nat} {R : gR} {μ : gM} {l0 l1 l3 : Value} {st : List Value} {x : Int32}  : gc_W (gc_S d) cX11_partsOf 11 0 R 25 [l0, l1, .int x, l3] st μ ↔ gc_W (gc_S d) cX11_partsOf 11 0 R 28 [l0, l1, .int (x + 1), l3] st μ := us_iinc dX11_partsOf_25 rfl ci_iinc_1
theorem u111_28 {d : Nat} {R : gR} {μ : gM} {l0 l1 l2 : Value} {st : List Value} {x : Int32}  : gc_W (gc_S d) cX11_partsOf 11 0 R 28 [l0, l1, l2, .int x] st μ ↔ gc_W (gc_S d) cX11_partsOf 11 0 R 31 [l0, l1, l2, .int (x + 1)] st μ := us_iinc dX11_partsOf_28 rfl ci_iinc_1
theorem u111_31 {d : Nat} {R : gR} {μ : gM} {L : List Value} {st : List Value}  : gc_W (gc_S d) cX11_partsOf 11 0 R 31 L st μ ↔ gc_W (gc_S d) cX11_partsOf 11 0 R 6 L st μ := us_goto dX11_partsOf_31 rfl
theorem u111_34 {d : Nat} {R : gR} {μ : gM} {l0 l1 l3 : Value} {st : List Value} {x : Int32}  : gc_W (gc_S d) cX11_partsOf 11 0 R 34 [l0, l1, .int x, l3] st μ ↔ gc_W (gc_S d) cX11_partsOf 11 0 R 35 [l0, l1, .int x, l3] (.int x :: st) μ := us_iload_n dX11_partsOf_34 rfl
theorem u111_35 {d : Nat} {R : gR} {μ : gM} {L : List Value} {v : Int32}  : gc_W (gc_S d) cX11_partsOf 11 0 R 35 L [.int v] μ ↔ R (some (.int v)) μ := us_iret dX11_partsOf_35 rfl
theorem s111 {d : Nat} {R : gR} {μ : gM} {a0 : Int32} : gc_S (d + 1) 111 [.int a0] μ R ↔ gc_W (gc_S d) cX11_partsOf 11 0 R 0 [.int a0, .retAddr 0, .retAddr 0, .retAddr 0] [] μ := us_call (gm_111) rfl rfl
theorem dX11_parts_0 : decode cX11_parts 0 = .ok (.aload_n 0, 1) := by decide +kernel
theorem dX11_parts_1 : decode cX11_parts 1 = .ok (.getfield 38, 3) := by decide +kernel
theorem dX11_parts_4 : decode cX11_parts 4 = .ok (.invokevirtual 220, 3) := by decide +kernel
theorem dX11_parts_7 : decode cX11_parts 7 = .ok (.invokestatic 223, 3) := by decide +kernel
theorem dX11_parts_10 : decode cX11_parts 10 = .ok (.ireturn, 1) := by decide +kernel
theorem u112_0 {d : Nat} {R : gR} {μ : gM} {st : List Value} {x : Nat}  : gc_W (gc_S d) cX11_parts 11 0 R 0 [.ref x] st μ ↔ gc_W (gc_S d) cX11_parts 11 0 R 1 [.ref x] (.ref x :: st) μ := us_aload_n dX11_parts_0 rfl
theorem u112_1 {d : Nat} {R : gR} {μ : gM} {L : List Value} {st : List Value} {o : Nat} (hk : gc_kd o = 11) : gc_W (gc_S d) cX11_parts 11 0 R 1 L (.ref o :: st) μ ↔ gc_W (gc_S d) cX11_parts 11 0 R 4 L (gc_fv o 0 μ :: st) μ := us_getf dX11_parts_1 gf_11_38 hk
theorem u112_4 {d : Nat} {R : gR} {μ : gM} {L : List Value} {o : Nat} (hk : gc_kd o = 0) : gc_W (gc_S d) cX11_parts 11 0 R 4 L [.ref o] μ ↔ gc_S d 4 [.ref o] μ (fun v μ' => gc_W (gc_S d) cX11_parts 11 0 R 7 L (v.toList ++ []) μ') := us_virt dX11_parts_4 gn_11_220 gc_11_220_0 hk rfl rfl rfl rfl rfl
theorem u112_7 {d : Nat} {R : gR} {μ : gM} {L : List Value}  {a0 : Int32}  : gc_W (gc_S d) cX11_parts 11 0 R 7 L [.int a0] μ ↔ gc_S d 111 [.int a0] μ (fun v μ' => gc_W (gc_S d) cX11_parts 11 0 R 10 L (v.toList ++ []) μ') := us_stat dX11_parts_7 gs_11_223 gne_11_223 gn_11_223 gc_11_223_97 rfl rfl rfl rfl
theorem u112_10 {d : Nat} {R : gR} {μ : gM} {L : List Value} {v : Int32}  : gc_W (gc_S d) cX11_parts 11 0 R 10 L [.int v] μ ↔ R (some (.int v)) μ := us_iret dX11_parts_10 rfl
theorem s112 {d : Nat} {R : gR} {μ : gM} {o : Nat} : gc_S (d + 1) 112 [.ref o] μ R ↔ gc_W (gc_S d) cX11_parts 11 0 R 0 [.ref o] [] μ := us_call (gm_112) rfl rfl
theorem dX11_isOnePartAtMost_0 : decode cX11_isOnePartAtMost 0 = .ok (.iload_n 0, 1) := by decide +kernel
theorem dX11_isOnePartAtMost_1 : decode cX11_isOnePartAtMost 1 = .ok (.invokestatic 318, 3) := by decide +kernel
theorem dX11_isOnePartAtMost_4 : decode cX11_isOnePartAtMost 4 = .ok (.iload_n 0, 1) := by decide +kernel
theorem dX11_isOnePartAtMost_5 : decode cX11_isOnePartAtMost 5 = .ok (.if_icmp .ne 7, 3) := by decide +kernel
theorem dX11_isOnePartAtMost_8 : decode cX11_isOnePartAtMost 8 = .ok (.iconst 1, 1) := by decide +kernel
theorem dX11_isOnePartAtMost_9 : decode cX11_isOnePartAtMost 9 = .ok (.goto 4, 3) := by decide +kernel
theorem dX11_isOnePartAtMost_12 : decode cX11_isOnePartAtMost 12 = .ok (.iconst 0, 1) := by decide +kernel
theorem dX11_isOnePartAtMost_13 : decode cX11_isOnePartAtMost 13 = .ok (.ireturn, 1) := by decide +kernel
theorem u113_0 {d : Nat} {R : gR} {μ : gM} {st : List Value} {x : Int32}  : gc_W (gc_S d) cX11_isOnePartAtMost 11 1 R 0 [.int x] st μ ↔ gc_W (gc_S d) cX11_isOnePartAtMost 11 1 R 1 [.int x] (.int x :: st) μ := us_iload_n dX11_isOnePartAtMost_0 rfl
theorem u113_1 {d : Nat} {R : gR} {μ : gM} {L : List Value}  {a0 : Int32}  : gc_W (gc_S d) cX11_isOnePartAtMost 11 1 R 1 L [.int a0] μ ↔ gc_S d 110 [.int a0] μ (fun v μ' => gc_W (gc_S d) cX11_isOnePartAtMost 11 1 R 4 L (v.toList ++ []) μ') := us_stat dX11_isOnePartAtMost_1 gs_11_318 gne_11_318 gn_11_318 gc_11_318_97 rfl rfl rfl rfl
theorem u113_4 {d : Nat} {R : gR} {μ : gM} {st : List Value} {x : Int32}  : gc_W (gc_S d) cX11_isOnePartAtMost 11 1 R 4 [.int x] st μ ↔ gc_W (gc_S d) cX11_isOnePartAtMost 11 1 R 5 [.int x] (.int x :: st) μ := us_iload_n dX11_isOnePartAtMost_4 rfl
theorem u113_5 {d : Nat} {R : gR} {μ : gM} {L : List Value} {st : List Value} {x y : Int32}  : gc_W (gc_S d) cX11_isOnePartAtMost 11 1 R 5 L (.int y :: .int x :: st) μ ↔ if x = y then gc_W (gc_S d) cX11_isOnePartAtMost 11 1 R 8 L st μ else gc_W (gc_S d) cX11_isOnePartAtMost 11 1 R 12 L st μ := us_icne dX11_isOnePartAtMost_5 rfl
theorem u113_8 {d : Nat} {R : gR} {μ : gM} {L : List Value} {st : List Value}   : gc_W (gc_S d) cX11_isOnePartAtMost 11 1 R 8 L st μ ↔ gc_W (gc_S d) cX11_isOnePartAtMost 11 1 R 9 L (.int 1 :: st) μ := us_iconst dX11_isOnePartAtMost_8 ci_iconst_1
theorem u113_9 {d : Nat} {R : gR} {μ : gM} {L : List Value} {st : List Value}  : gc_W (gc_S d) cX11_isOnePartAtMost 11 1 R 9 L st μ ↔ gc_W (gc_S d) cX11_isOnePartAtMost 11 1 R 13 L st μ := us_goto dX11_isOnePartAtMost_9 rfl
theorem u113_12 {d : Nat} {R : gR} {μ : gM} {L : List Value} {st : List Value}   : gc_W (gc_S d) cX11_isOnePartAtMost 11 1 R 12 L st μ ↔ gc_W (gc_S d) cX11_isOnePartAtMost 11 1 R 13 L (.int 0 :: st) μ := us_iconst dX11_isOnePartAtMost_12 ci_iconst_0
theorem u113_13 {d : Nat} {R : gR} {μ : gM} {L : List Value} {v : Int32}  : gc_W (gc_S d) cX11_isOnePartAtMost 11 1 R 13 L [.int v] μ ↔ ((v = 0 ∨ v = 1) ∧ R (some (.int v)) μ) := us_zret dX11_isOnePartAtMost_13 rfl
theorem s113 {d : Nat} {R : gR} {μ : gM} {a0 : Int32} : gc_S (d + 1) 113 [.int a0] μ R ↔ gc_W (gc_S d) cX11_isOnePartAtMost 11 1 R 0 [.int a0] [] μ := us_call (gm_113) rfl rfl
theorem dX11_mends_0 : decode cX11_mends 0 = .ok (.aload_n 0, 1) := by decide +kernel
theorem dX11_mends_1 : decode cX11_mends 1 = .ok (.getfield 38, 3) := by decide +kernel
theorem dX11_mends_4 : decode cX11_mends 4 = .ok (.getfield 95, 3) := by decide +kernel
theorem dX11_mends_7 : decode cX11_mends 7 = .ok (.istore_n 1, 1) := by decide +kernel
theorem dX11_mends_8 : decode cX11_mends 8 = .ok (.iload_n 1, 1) := by decide +kernel
theorem dX11_mends_9 : decode cX11_mends 9 = .ok (.invokestatic 109, 3) := by decide +kernel
theorem dX11_mends_12 : decode cX11_mends 12 = .ok (.istore_n 2, 1) := by decide +kernel
theorem dX11_mends_13 : decode cX11_mends 13 = .ok (.iload_n 2, 1) := by decide +kernel
theorem dX11_mends_14 : decode cX11_mends 14 = .ok (.bipush 10, 2) := by decide +kernel
theorem dX11_mends_16 : decode cX11_mends 16 = .ok (.if_icmp .le 9, 3) := by decide +kernel
theorem dX11_mends_19 : decode cX11_mends 19 = .ok (.aload_n 0, 1) := by decide +kernel
theorem dX11_mends_20 : decode cX11_mends 20 = .ok (.iconst 3, 1) := by decide +kernel
theorem dX11_mends_21 : decode cX11_mends 21 = .ok (.invokevirtual 88, 3) := by decide +kernel
theorem dX11_mends_24 : decode cX11_mends 24 = .ok (.ireturn, 1) := by decide +kernel
theorem dX11_mends_25 : decode cX11_mends 25 = .ok (.iload_n 1, 1) := by decide +kernel
theorem dX11_mends_26 : decode cX11_mends 26 = .ok (.istore_n 3, 1) := by decide +kernel
theorem dX11_mends_27 : decode cX11_mends 27 = .ok (.iconst 0, 1) := by decide +kernel
theorem dX11_mends_28 : decode cX11_mends 28 = .ok (.istore 4, 2) := by decide +kernel
theorem dX11_mends_30 : decode cX11_mends 30 = .ok (.iconst 0, 1) := by decide +kernel
theorem dX11_mends_31 : decode cX11_mends 31 = .ok (.istore 5, 2) := by decide +kernel
theorem dX11_mends_33 : decode cX11_mends 33 = .ok (.iload 5, 2) := by decide +kernel
theorem dX11_mends_35 : decode cX11_mends 35 = .ok (.iconst 1, 1) := by decide +kernel
theorem dX11_mends_36 : decode cX11_mends 36 = .ok (.iload_n 2, 1) := by decide +kernel
theorem dX11_mends_37 : decode cX11_mends 37 = .ok (.ishl, 1) := by decide +kernel
theorem dX11_mends_38 : decode cX11_mends 38 = .ok (.if_icmp .ge 48, 3) := by decide +kernel
theorem dX11_mends_41 : decode cX11_mends 41 = .ok (.iload 4, 2) := by decide +kernel
theorem dX11_mends_43 : decode cX11_mends 43 = .ok (.invokestatic 109, 3) := by decide +kernel
theorem dX11_mends_46 : decode cX11_mends 46 = .ok (.iload_n 3, 1) := by decide +kernel
theorem dX11_mends_47 : decode cX11_mends 47 = .ok (.invokestatic 109, 3) := by decide +kernel
theorem dX11_mends_50 : decode cX11_mends 50 = .ok (.if_icmp .ge 22, 3) := by decide +kernel
theorem dX11_mends_53 : decode cX11_mends 53 = .ok (.aload_n 0, 1) := by decide +kernel
theorem dX11_mends_54 : decode cX11_mends 54 = .ok (.getfield 38, 3) := by decide +kernel
theorem dX11_mends_57 : decode cX11_mends 57 = .ok (.invokevirtual 220, 3) := by decide +kernel
theorem dX11_mends_60 : decode cX11_mends 60 = .ok (.iload 4, 2) := by decide +kernel
theorem dX11_mends_62 : decode cX11_mends 62 = .ok (.ior, 1) := by decide +kernel
theorem dX11_mends_63 : decode cX11_mends 63 = .ok (.invokestatic 226, 3) := by decide +kernel
theorem dX11_mends_66 : decode cX11_mends 66 = .ok (.ifCond .eq 6, 3) := by decide +kernel
theorem dX11_mends_69 : decode cX11_mends 69 = .ok (.iload 4, 2) := by decide +kernel
theorem dX11_mends_71 : decode cX11_mends 71 = .ok (.istore_n 3, 1) := by decide +kernel
theorem dX11_mends_72 : decode cX11_mends 72 = .ok (.iload 4, 2) := by decide +kernel
theorem dX11_mends_74 : decode cX11_mends 74 = .ok (.iload_n 1, 1) := by decide +kernel
theorem dX11_mends_75 : decode cX11_mends 75 = .ok (.isub, 1) := by decide +kernel
theorem dX11_mends_76 : decode cX11_mends 76 = .ok (.iload_n 1, 1) := by decide +kernel
theorem dX11_mends_77 : decode cX11_mends 77 = .ok (.iand, 1) := by decide +kernel
theorem dX11_mends_78 : decode cX11_mends 78 = .ok (.istore 4, 2) := by decide +kernel
theorem dX11_mends_80 : decode cX11_mends 80 = .ok (.iinc 5 1, 3) := by decide +kernel
theorem dX11_mends_83 : decode cX11_mends 83 = .ok (.goto (-50), 3) := by decide +kernel
theorem dX11_mends_86 : decode cX11_mends 86 = .ok (.iload_n 3, 1) := by decide +kernel
theorem dX11_mends_87 : decode cX11_mends 87 = .ok (.ireturn, 1) := by decide +kernel
theorem u114_0 {d : Nat} {R : gR} {μ : gM} {l1 l2 l3 l4 l5 : Value} {st : List Value} {x : Nat}  : gc_W (gc_S d) cX11_mends 11 0 R 0 [.ref x, l1, l2, l3, l4, l5] st μ ↔ gc_W (gc_S d) cX11_mends 11 0 R 1 [.ref x, l1, l2, l3, l4, l5] (.ref x :: st) μ := us_aload_n dX11_mends_0 rfl
theorem u114_1 {d : Nat} {R : gR} {μ : gM} {L : List Value} {st : List Value} {o : Nat} (hk : gc_kd o = 11) : gc_W (gc_S d) cX11_mends 11 0 R 1 L (.ref o :: st) μ ↔ gc_W (gc_S d) cX11_mends 11 0 R 4 L (gc_fv o 0 μ :: st) μ := us_getf dX11_mends_1 gf_11_38 hk
theorem u114_4 {d : Nat} {R : gR} {μ : gM} {L : List Value} {st : List Value} {o : Nat} (hk : gc_kd o = 0) : gc_W (gc_S d) cX11_mends 11 0 R 4 L (.ref o :: st) μ ↔ gc_W (gc_S d) cX11_mends 11 0 R 7 L (gc_fv o 11 μ :: st) μ := us_getf dX11_mends_4 gf_11_95 hk
theorem u114_7 {d : Nat} {R : gR} {μ : gM} {l0 l1 l2 l3 l4 l5 : Value} {st : List Value} {x : Int32} (hs : gc_sk l1 = true) : gc_W (gc_S d) cX11_mends 11 0 R 7 [l0, l1, l2, l3, l4, l5] (.int x :: st) μ ↔ gc_W (gc_S d) cX11_mends 11 0 R 8 [l0, .int x, l2, l3, l4, l5] st μ := us_istore_n dX11_mends_7 rfl hs
theorem u114_8 {d : Nat} {R : gR} {μ : gM} {l0 l2 l3 l4 l5 : Value} {st : List Value} {x : Int32}  : gc_W (gc_S d) cX11_mends 11 0 R 8 [l0, .int x, l2, l3, l4, l5] st μ ↔ gc_W (gc_S d) cX11_mends 11 0 R 9 [l0, .int x, l2, l3, l4, l5] (.int x :: st) μ := us_iload_n dX11_mends_8 rfl
theorem u114_9 {d : Nat} {R : gR} {μ : gM} {L : List Value}  {a0 : Int32}  : gc_W (gc_S d) cX11_mends 11 0 R 9 L [.int a0] μ ↔ gc_S d 30 [.int a0] μ (fun v μ' => gc_W (gc_S d) cX11_mends 11 0 R 12 L (v.toList ++ []) μ') := us_stat dX11_mends_9 gs_11_109 gne_11_109 gn_11_109 gc_11_109_97 rfl rfl rfl rfl
theorem u114_12 {d : Nat} {R : gR} {μ : gM} {l0 l1 l2 l3 l4 l5 : Value} {st : List Value} {x : Int32} (hs : gc_sk l2 = true) : gc_W (gc_S d) cX11_mends 11 0 R 12 [l0, l1, l2, l3, l4, l5] (.int x :: st) μ ↔ gc_W (gc_S d) cX11_mends 11 0 R 13 [l0, l1, .int x, l3, l4, l5] st μ := us_istore_n dX11_mends_12 rfl hs
theorem u114_13 {d : Nat} {R : gR} {μ : gM} {l0 l1 l3 l4 l5 : Value} {st : List Value} {x : Int32}  : gc_W (gc_S d) cX11_mends 11 0 R 13 [l0, l1, .int x, l3, l4, l5] st μ ↔ gc_W (gc_S d) cX11_mends 11 0 R 14 [l0, l1, .int x, l3, l4, l5] (.int x :: st) μ := us_iload_n dX11_mends_13 rfl
theorem u114_14 {d : Nat} {R : gR} {μ : gM} {L : List Value} {st : List Value}   : gc_W (gc_S d) cX11_mends 11 0 R 14 L st μ ↔ gc_W (gc_S d) cX11_mends 11 0 R 16 L (.int 10 :: st) μ := us_bipush dX11_mends_14 ci_bipush_10
theorem u114_16 {d : Nat} {R : gR} {μ : gM} {L : List Value} {st : List Value} {x y : Int32}  : gc_W (gc_S d) cX11_mends 11 0 R 16 L (.int y :: .int x :: st) μ ↔ if x ≤ y then gc_W (gc_S d) cX11_mends 11 0 R 25 L st μ else gc_W (gc_S d) cX11_mends 11 0 R 19 L st μ := us_icle dX11_mends_16 rfl
theorem u114_19 {d : Nat} {R : gR} {μ : gM} {l1 l2 l3 l4 l5 : Value} {st : List Value} {x : Nat}  : gc_W (gc_S d) cX11_mends 11 0 R 19 [.ref x, l1, l2, l3, l4, l5] st μ ↔ gc_W (gc_S d) cX11_mends 11 0 R 20 [.ref x, l1, l2, l3, l4, l5] (.ref x :: st) μ := us_aload_n dX11_mends_19 rfl
theorem u114_20 {d : Nat} {R : gR} {μ : gM} {L : List Value} {st : List Value}   : gc_W (gc_S d) cX11_mends 11 0 R 20 L st μ ↔ gc_W (gc_S d) cX11_mends 11 0 R 21 L (.int 3 :: st) μ := us_iconst dX11_mends_20 ci_iconst_3
theorem u114_21 {d : Nat} {R : gR} {μ : gM} {L : List Value} {o : Nat} {a0 : Int32} (hk : gc_kd o = 11) : gc_W (gc_S d) cX11_mends 11 0 R 21 L [.int a0, .ref o] μ ↔ gc_S d 75 [.ref o, .int a0] μ (fun v μ' => gc_W (gc_S d) cX11_mends 11 0 R 24 L (v.toList ++ []) μ') := us_virt dX11_mends_21 gn_11_88 gc_11_88_11 hk rfl rfl rfl rfl rfl
theorem u114_24 {d : Nat} {R : gR} {μ : gM} {L : List Value} {v : Int32}  : gc_W (gc_S d) cX11_mends 11 0 R 24 L [.int v] μ ↔ R (some (.int v)) μ := us_iret dX11_mends_24 rfl
theorem u114_25 {d : Nat} {R : gR} {μ : gM} {l0 l2 l3 l4 l5 : Value} {st : List Value} {x : Int32}  : gc_W (gc_S d) cX11_mends 11 0 R 25 [l0, .int x, l2, l3, l4, l5] st μ ↔ gc_W (gc_S d) cX11_mends 11 0 R 26 [l0, .int x, l2, l3, l4, l5] (.int x :: st) μ := us_iload_n dX11_mends_25 rfl
theorem u114_26 {d : Nat} {R : gR} {μ : gM} {l0 l1 l2 l3 l4 l5 : Value} {st : List Value} {x : Int32} (hs : gc_sk l3 = true) : gc_W (gc_S d) cX11_mends 11 0 R 26 [l0, l1, l2, l3, l4, l5] (.int x :: st) μ ↔ gc_W (gc_S d) cX11_mends 11 0 R 27 [l0, l1, l2, .int x, l4, l5] st μ := us_istore_n dX11_mends_26 rfl hs
theorem u114_27 {d : Nat} {R : gR} {μ : gM} {L : List Value} {st : List Value}   : gc_W (gc_S d) cX11_mends 11 0 R 27 L st μ ↔ gc_W (gc_S d) cX11_mends 11 0 R 28 L (.int 0 :: st) μ := us_iconst dX11_mends_27 ci_iconst_0
theorem u114_28 {d : Nat} {R : gR} {μ : gM} {l0 l1 l2 l3 l4 l5 : Value} {st : List Value} {x : Int32} (hs : gc_sk l4 = true) : gc_W (gc_S d) cX11_mends 11 0 R 28 [l0, l1, l2, l3, l4, l5] (.int x :: st) μ ↔ gc_W (gc_S d) cX11_mends 11 0 R 30 [l0, l1, l2, l3, .int x, l5] st μ := us_istore dX11_mends_28 rfl hs
theorem u114_30 {d : Nat} {R : gR} {μ : gM} {L : List Value} {st : List Value}   : gc_W (gc_S d) cX11_mends 11 0 R 30 L st μ ↔ gc_W (gc_S d) cX11_mends 11 0 R 31 L (.int 0 :: st) μ := us_iconst dX11_mends_30 ci_iconst_0
theorem u114_31 {d : Nat} {R : gR} {μ : gM} {l0 l1 l2 l3 l4 l5 : Value} {st : List Value} {x : Int32} (hs : gc_sk l5 = true) : gc_W (gc_S d) cX11_mends 11 0 R 31 [l0, l1, l2, l3, l4, l5] (.int x :: st) μ ↔ gc_W (gc_S d) cX11_mends 11 0 R 33 [l0, l1, l2, l3, l4, .int x] st μ := us_istore dX11_mends_31 rfl hs
theorem u114_33 {d : Nat} {R : gR} {μ : gM} {l0 l1 l2 l3 l4 : Value} {st : List Value} {x : Int32}  : gc_W (gc_S d) cX11_mends 11 0 R 33 [l0, l1, l2, l3, l4, .int x] st μ ↔ gc_W (gc_S d) cX11_mends 11 0 R 35 [l0, l1, l2, l3, l4, .int x] (.int x :: st) μ := us_iload dX11_mends_33 rfl
theorem u114_35 {d : Nat} {R : gR} {μ : gM} {L : List Value} {st : List Value}   : gc_W (gc_S d) cX11_mends 11 0 R 35 L st μ ↔ gc_W (gc_S d) cX11_mends 11 0 R 36 L (.int 1 :: st) μ := us_iconst dX11_mends_35 ci_iconst_1
theorem u114_36 {d : Nat} {R : gR} {μ : gM} {l0 l1 l3 l4 l5 : Value} {st : List Value} {x : Int32}  : gc_W (gc_S d) cX11_mends 11 0 R 36 [l0, l1, .int x, l3, l4, l5] st μ ↔ gc_W (gc_S d) cX11_mends 11 0 R 37 [l0, l1, .int x, l3, l4, l5] (.int x :: st) μ := us_iload_n dX11_mends_36 rfl
theorem u114_37 {d : Nat} {R : gR} {μ : gM} {L : List Value} {st : List Value} {x y : Int32}  : gc_W (gc_S d) cX11_mends 11 0 R 37 L (.int y :: .int x :: st) μ ↔ gc_W (gc_S d) cX11_mends 11 0 R 38 L (.int (x <<< (y &&& 31)) :: st) μ := us_ishl dX11_mends_37
theorem u114_38 {d : Nat} {R : gR} {μ : gM} {L : List Value} {st : List Value} {x y : Int32}  : gc_W (gc_S d) cX11_mends 11 0 R 38 L (.int y :: .int x :: st) μ ↔ if y ≤ x then gc_W (gc_S d) cX11_mends 11 0 R 86 L st μ else gc_W (gc_S d) cX11_mends 11 0 R 41 L st μ := us_icge dX11_mends_38 rfl
theorem u114_41 {d : Nat} {R : gR} {μ : gM} {l0 l1 l2 l3 l5 : Value} {st : List Value} {x : Int32}  : gc_W (gc_S d) cX11_mends 11 0 R 41 [l0, l1, l2, l3, .int x, l5] st μ ↔ gc_W (gc_S d) cX11_mends 11 0 R 43 [l0, l1, l2, l3, .int x, l5] (.int x :: st) μ := us_iload dX11_mends_41 rfl
theorem u114_43 {d : Nat} {R : gR} {μ : gM} {L : List Value}  {a0 : Int32}  : gc_W (gc_S d) cX11_mends 11 0 R 43 L [.int a0] μ ↔ gc_S d 30 [.int a0] μ (fun v μ' => gc_W (gc_S d) cX11_mends 11 0 R 46 L (v.toList ++ []) μ') := us_stat dX11_mends_43 gs_11_109 gne_11_109 gn_11_109 gc_11_109_97 rfl rfl rfl rfl
theorem u114_46 {d : Nat} {R : gR} {μ : gM} {l0 l1 l2 l4 l5 : Value} {st : List Value} {x : Int32}  : gc_W (gc_S d) cX11_mends 11 0 R 46 [l0, l1, l2, .int x, l4, l5] st μ ↔ gc_W (gc_S d) cX11_mends 11 0 R 47 [l0, l1, l2, .int x, l4, l5] (.int x :: st) μ := us_iload_n dX11_mends_46 rfl
theorem u114_47 {d : Nat} {R : gR} {μ : gM} {L : List Value}  {a0 : Int32} {s0 : Value}  : gc_W (gc_S d) cX11_mends 11 0 R 47 L [.int a0, s0] μ ↔ gc_S d 30 [.int a0] μ (fun v μ' => gc_W (gc_S d) cX11_mends 11 0 R 50 L (v.toList ++ [s0]) μ') := us_stat dX11_mends_47 gs_11_109 gne_11_109 gn_11_109 gc_11_109_97 rfl rfl rfl rfl
theorem u114_50 {d : Nat} {R : gR} {μ : gM} {L : List Value} {st : List Value} {x y : Int32}  : gc_W (gc_S d) cX11_mends 11 0 R 50 L (.int y :: .int x :: st) μ ↔ if y ≤ x then gc_W (gc_S d) cX11_mends 11 0 R 72 L st μ else gc_W (gc_S d) cX11_mends 11 0 R 53 L st μ := us_icge dX11_mends_50 rfl
theorem u114_53 {d : Nat} {R : gR} {μ : gM} {l1 l2 l3 l4 l5 : Value} {st : List Value} {x : Nat}  : gc_W (gc_S d) cX11_mends 11 0 R 53 [.ref x, l1, l2, l3, l4, l5] st μ ↔ gc_W (gc_S d) cX11_mends 11 0 R 54 [.ref x, l1, l2, l3, l4, l5] (.ref x :: st) μ := us_aload_n dX11_mends_53 rfl
theorem u114_54 {d : Nat} {R : gR} {μ : gM} {L : List Value} {st : List Value} {o : Nat} (hk : gc_kd o = 11) : gc_W (gc_S d) cX11_mends 11 0 R 54 L (.ref o :: st) μ ↔ gc_W (gc_S d) cX11_mends 11 0 R 57 L (gc_fv o 0 μ :: st) μ := us_getf dX11_mends_54 gf_11_38 hk
theorem u114_57 {d : Nat} {R : gR} {μ : gM} {L : List Value} {o : Nat} (hk : gc_kd o = 0) : gc_W (gc_S d) cX11_mends 11 0 R 57 L [.ref o] μ ↔ gc_S d 4 [.ref o] μ (fun v μ' => gc_W (gc_S d) cX11_mends 11 0 R 60 L (v.toList ++ []) μ') := us_virt dX11_mends_57 gn_11_220 gc_11_220_0 hk rfl rfl rfl rfl rfl
theorem u114_60 {d : Nat} {R : gR} {μ : gM} {l0 l1 l2 l3 l5 : Value} {st : List Value} {x : Int32}  : gc_W (gc_S d) cX11_mends 11 0 R 60 [l0, l1, l2, l3, .int x, l5] st μ ↔ gc_W (gc_S d) cX11_mends 11 0 R 62 [l0, l1, l2, l3, .int x, l5] (.int x :: st) μ := us_iload dX11_mends_60 rfl
theorem u114_62 {d : Nat} {R : gR} {μ : gM} {L : List Value} {st : List Value} {x y : Int32}  : gc_W (gc_S d) cX11_mends 11 0 R 62 L (.int y :: .int x :: st) μ ↔ gc_W (gc_S d) cX11_mends 11 0 R 63 L (.int (x ||| y) :: st) μ := us_ior dX11_mends_62
theorem u114_63 {d : Nat} {R : gR} {μ : gM} {L : List Value}  {a0 : Int32}  : gc_W (gc_S d) cX11_mends 11 0 R 63 L [.int a0] μ ↔ gc_S d 113 [.int a0] μ (fun v μ' => gc_W (gc_S d) cX11_mends 11 0 R 66 L (v.toList ++ []) μ') := us_stat dX11_mends_63 gs_11_226 gne_11_226 gn_11_226 gc_11_226_97 rfl rfl rfl rfl
theorem u114_66 {d : Nat} {R : gR} {μ : gM} {L : List Value} {st : List Value} {x : Int32}  : gc_W (gc_S d) cX11_mends 11 0 R 66 L (.int x :: st) μ ↔ if x = 0 then gc_W (gc_S d) cX11_mends 11 0 R 72 L st μ else gc_W (gc_S d) cX11_mends 11 0 R 69 L st μ := us_ifeq dX11_mends_66 rfl
theorem u114_69 {d : Nat} {R : gR} {μ : gM} {l0 l1 l2 l3 l5 : Value} {st : List Value} {x : Int32}  : gc_W (gc_S d) cX11_mends 11 0 R 69 [l0, l1, l2, l3, .int x, l5] st μ ↔ gc_W (gc_S d) cX11_mends 11 0 R 71 [l0, l1, l2, l3, .int x, l5] (.int x :: st) μ := us_iload dX11_mends_69 rfl
theorem u114_71 {d : Nat} {R : gR} {μ : gM} {l0 l1 l2 l3 l4 l5 : Value} {st : List Value} {x : Int32} (hs : gc_sk l3 = true) : gc_W (gc_S d) cX11_mends 11 0 R 71 [l0, l1, l2, l3, l4, l5] (.int x :: st) μ ↔ gc_W (gc_S d) cX11_mends 11 0 R 72 [l0, l1, l2, .int x, l4, l5] st μ := us_istore_n dX11_mends_71 rfl hs
theorem u114_72 {d : Nat} {R : gR} {μ : gM} {l0 l1 l2 l3 l5 : Value} {st : List Value} {x : Int32}  : gc_W (gc_S d) cX11_mends 11 0 R 72 [l0, l1, l2, l3, .int x, l5] st μ ↔ gc_W (gc_S d) cX11_mends 11 0 R 74 [l0, l1, l2, l3, .int x, l5] (.int x :: st) μ := us_iload dX11_mends_72 rfl
theorem u114_74 {d : Nat} {R : gR} {μ : gM} {l0 l2 l3 l4 l5 : Value} {st : List Value} {x : Int32}  : gc_W (gc_S d) cX11_mends 11 0 R 74 [l0, .int x, l2, l3, l4, l5] st μ ↔ gc_W (gc_S d) cX11_mends 11 0 R 75 [l0, .int x, l2, l3, l4, l5] (.int x :: st) μ := us_iload_n dX11_mends_74 rfl
theorem u114_75 {d : Nat} {R : gR} {μ : gM} {L : List Value} {st : List Value} {x y : Int32}  : gc_W (gc_S d) cX11_mends 11 0 R 75 L (.int y :: .int x :: st) μ ↔ gc_W (gc_S d) cX11_mends 11 0 R 76 L (.int (x - y) :: st) μ := us_isub dX11_mends_75
theorem u114_76 {d : Nat} {R : gR} {μ : gM} {l0 l2 l3 l4 l5 : Value} {st : List Value} {x : Int32}  : gc_W (gc_S d) cX11_mends 11 0 R 76 [l0, .int x, l2, l3, l4, l5] st μ ↔ gc_W (gc_S d) cX11_mends 11 0 R 77 [l0, .int x, l2, l3, l4, l5] (.int x :: st) μ := us_iload_n dX11_mends_76 rfl
theorem u114_77 {d : Nat} {R : gR} {μ : gM} {L : List Value} {st : List Value} {x y : Int32}  : gc_W (gc_S d) cX11_mends 11 0 R 77 L (.int y :: .int x :: st) μ ↔ gc_W (gc_S d) cX11_mends 11 0 R 78 L (.int (x &&& y) :: st) μ := us_iand dX11_mends_77
theorem u114_78 {d : Nat} {R : gR} {μ : gM} {l0 l1 l2 l3 l4 l5 : Value} {st : List Value} {x : Int32} (hs : gc_sk l4 = true) : gc_W (gc_S d) cX11_mends 11 0 R 78 [l0, l1, l2, l3, l4, l5] (.int x :: st) μ ↔ gc_W (gc_S d) cX11_mends 11 0 R 80 [l0, l1, l2, l3, .int x, l5] st μ := us_istore dX11_mends_78 rfl hs
theorem u114_80 {d : Nat} {R : gR} {μ : gM} {l0 l1 l2 l3 l4 : Value} {st : List Value} {x : Int32}  : gc_W (gc_S d) cX11_mends 11 0 R 80 [l0, l1, l2, l3, l4, .int x] st μ ↔ gc_W (gc_S d) cX11_mends 11 0 R 83 [l0, l1, l2, l3, l4, .int (x + 1)] st μ := us_iinc dX11_mends_80 rfl ci_iinc_1
theorem u114_83 {d : Nat} {R : gR} {μ : gM} {L : List Value} {st : List Value}  : gc_W (gc_S d) cX11_mends 11 0 R 83 L st μ ↔ gc_W (gc_S d) cX11_mends 11 0 R 33 L st μ := us_goto dX11_mends_83 rfl
theorem u114_86 {d : Nat} {R : gR} {μ : gM} {l0 l1 l2 l4 l5 : Value} {st : List Value} {x : Int32}  : gc_W (gc_S d) cX11_mends 11 0 R 86 [l0, l1, l2, .int x, l4, l5] st μ ↔ gc_W (gc_S d) cX11_mends 11 0 R 87 [l0, l1, l2, .int x, l4, l5] (.int x :: st) μ := us_iload_n dX11_mends_86 rfl
theorem u114_87 {d : Nat} {R : gR} {μ : gM} {L : List Value} {v : Int32}  : gc_W (gc_S d) cX11_mends 11 0 R 87 L [.int v] μ ↔ R (some (.int v)) μ := us_iret dX11_mends_87 rfl
theorem s114 {d : Nat} {R : gR} {μ : gM} {o : Nat} : gc_S (d + 1) 114 [.ref o] μ R ↔ gc_W (gc_S d) cX11_mends 11 0 R 0 [.ref o, .retAddr 0, .retAddr 0, .retAddr 0, .retAddr 0, .retAddr 0] [] μ := us_call (gm_114) rfl rfl
theorem dX11_rank_0 : decode cX11_rank 0 = .ok (.iload_n 1, 1) := by decide +kernel
theorem dX11_rank_1 : decode cX11_rank 1 = .ok (.iconst 1, 1) := by decide +kernel
theorem dX11_rank_2 : decode cX11_rank 2 = .ok (.iload_n 0, 1) := by decide +kernel
theorem dX11_rank_3 : decode cX11_rank 3 = .ok (.ishl, 1) := by decide +kernel
theorem dX11_rank_4 : decode cX11_rank 4 = .ok (.iconst 1, 1) := by decide +kernel
theorem dX11_rank_5 : decode cX11_rank 5 = .ok (.isub, 1) := by decide +kernel
theorem dX11_rank_6 : decode cX11_rank 6 = .ok (.iand, 1) := by decide +kernel
theorem dX11_rank_7 : decode cX11_rank 7 = .ok (.invokestatic 109, 3) := by decide +kernel
theorem dX11_rank_10 : decode cX11_rank 10 = .ok (.ireturn, 1) := by decide +kernel
theorem u115_0 {d : Nat} {R : gR} {μ : gM} {l0 : Value} {st : List Value} {x : Int32}  : gc_W (gc_S d) cX11_rank 11 0 R 0 [l0, .int x] st μ ↔ gc_W (gc_S d) cX11_rank 11 0 R 1 [l0, .int x] (.int x :: st) μ := us_iload_n dX11_rank_0 rfl
theorem u115_1 {d : Nat} {R : gR} {μ : gM} {L : List Value} {st : List Value}   : gc_W (gc_S d) cX11_rank 11 0 R 1 L st μ ↔ gc_W (gc_S d) cX11_rank 11 0 R 2 L (.int 1 :: st) μ := us_iconst dX11_rank_1 ci_iconst_1
theorem u115_2 {d : Nat} {R : gR} {μ : gM} {l1 : Value} {st : List Value} {x : Int32}  : gc_W (gc_S d) cX11_rank 11 0 R 2 [.int x, l1] st μ ↔ gc_W (gc_S d) cX11_rank 11 0 R 3 [.int x, l1] (.int x :: st) μ := us_iload_n dX11_rank_2 rfl
theorem u115_3 {d : Nat} {R : gR} {μ : gM} {L : List Value} {st : List Value} {x y : Int32}  : gc_W (gc_S d) cX11_rank 11 0 R 3 L (.int y :: .int x :: st) μ ↔ gc_W (gc_S d) cX11_rank 11 0 R 4 L (.int (x <<< (y &&& 31)) :: st) μ := us_ishl dX11_rank_3
theorem u115_4 {d : Nat} {R : gR} {μ : gM} {L : List Value} {st : List Value}   : gc_W (gc_S d) cX11_rank 11 0 R 4 L st μ ↔ gc_W (gc_S d) cX11_rank 11 0 R 5 L (.int 1 :: st) μ := us_iconst dX11_rank_4 ci_iconst_1
theorem u115_5 {d : Nat} {R : gR} {μ : gM} {L : List Value} {st : List Value} {x y : Int32}  : gc_W (gc_S d) cX11_rank 11 0 R 5 L (.int y :: .int x :: st) μ ↔ gc_W (gc_S d) cX11_rank 11 0 R 6 L (.int (x - y) :: st) μ := us_isub dX11_rank_5
theorem u115_6 {d : Nat} {R : gR} {μ : gM} {L : List Value} {st : List Value} {x y : Int32}  : gc_W (gc_S d) cX11_rank 11 0 R 6 L (.int y :: .int x :: st) μ ↔ gc_W (gc_S d) cX11_rank 11 0 R 7 L (.int (x &&& y) :: st) μ := us_iand dX11_rank_6
theorem u115_7 {d : Nat} {R : gR} {μ : gM} {L : List Value}  {a0 : Int32}  : gc_W (gc_S d) cX11_rank 11 0 R 7 L [.int a0] μ ↔ gc_S d 30 [.int a0] μ (fun v μ' => gc_W (gc_S d) cX11_rank 11 0 R 10 L (v.toList ++ []) μ') := us_stat dX11_rank_7 gs_11_109 gne_11_109 gn_11_109 gc_11_109_97 rfl rfl rfl rfl
theorem u115_10 {d : Nat} {R : gR} {μ : gM} {L : List Value} {v : Int32}  : gc_W (gc_S d) cX11_rank 11 0 R 10 L [.int v] μ ↔ R (some (.int v)) μ := us_iret dX11_rank_10 rfl
theorem s115 {d : Nat} {R : gR} {μ : gM} {a0 a1 : Int32} : gc_S (d + 1) 115 [.int a0, .int a1] μ R ↔ gc_W (gc_S d) cX11_rank 11 0 R 0 [.int a0, .int a1] [] μ := us_call (gm_115) rfl rfl
theorem dX11_listDryings_0 : decode cX11_listDryings 0 = .ok (.aload_n 0, 1) := by decide +kernel
theorem dX11_listDryings_1 : decode cX11_listDryings 1 = .ok (.getfield 72, 3) := by decide +kernel
theorem dX11_listDryings_4 : decode cX11_listDryings 4 = .ok (.iconst 0, 1) := by decide +kernel
theorem dX11_listDryings_5 : decode cX11_listDryings 5 = .ok (.putfield 161, 3) := by decide +kernel
theorem dX11_listDryings_8 : decode cX11_listDryings 8 = .ok (.iconst 0, 1) := by decide +kernel
theorem dX11_listDryings_9 : decode cX11_listDryings 9 = .ok (.istore_n 2, 1) := by decide +kernel
theorem dX11_listDryings_10 : decode cX11_listDryings 10 = .ok (.iload_n 2, 1) := by decide +kernel
theorem dX11_listDryings_11 : decode cX11_listDryings 11 = .ok (.bipush 16, 2) := by decide +kernel
theorem dX11_listDryings_13 : decode cX11_listDryings 13 = .ok (.if_icmp .ge 88, 3) := by decide +kernel
theorem dX11_listDryings_16 : decode cX11_listDryings 16 = .ok (.iload_n 1, 1) := by decide +kernel
theorem dX11_listDryings_17 : decode cX11_listDryings 17 = .ok (.iload_n 2, 1) := by decide +kernel
theorem dX11_listDryings_18 : decode cX11_listDryings 18 = .ok (.ishr, 1) := by decide +kernel
theorem dX11_listDryings_19 : decode cX11_listDryings 19 = .ok (.iconst 1, 1) := by decide +kernel
theorem dX11_listDryings_20 : decode cX11_listDryings 20 = .ok (.iand, 1) := by decide +kernel
theorem dX11_listDryings_21 : decode cX11_listDryings 21 = .ok (.iconst 1, 1) := by decide +kernel
theorem dX11_listDryings_22 : decode cX11_listDryings 22 = .ok (.if_icmp .ne 73, 3) := by decide +kernel
theorem dX11_listDryings_25 : decode cX11_listDryings 25 = .ok (.iconst 1, 1) := by decide +kernel
theorem dX11_listDryings_26 : decode cX11_listDryings 26 = .ok (.iload_n 2, 1) := by decide +kernel
theorem dX11_listDryings_27 : decode cX11_listDryings 27 = .ok (.iload_n 1, 1) := by decide +kernel
theorem dX11_listDryings_28 : decode cX11_listDryings 28 = .ok (.invokestatic 333, 3) := by decide +kernel
theorem dX11_listDryings_31 : decode cX11_listDryings 31 = .ok (.ishl, 1) := by decide +kernel
theorem dX11_listDryings_32 : decode cX11_listDryings 32 = .ok (.istore_n 3, 1) := by decide +kernel
theorem dX11_listDryings_33 : decode cX11_listDryings 33 = .ok (.aload_n 0, 1) := by decide +kernel
theorem dX11_listDryings_34 : decode cX11_listDryings 34 = .ok (.getfield 72, 3) := by decide +kernel
theorem dX11_listDryings_37 : decode cX11_listDryings 37 = .ok (.iload_n 3, 1) := by decide +kernel
theorem dX11_listDryings_38 : decode cX11_listDryings 38 = .ok (.invokevirtual 164, 3) := by decide +kernel
theorem dX11_listDryings_41 : decode cX11_listDryings 41 = .ok (.iload_n 1, 1) := by decide +kernel
theorem dX11_listDryings_42 : decode cX11_listDryings 42 = .ok (.iload_n 2, 1) := by decide +kernel
theorem dX11_listDryings_43 : decode cX11_listDryings 43 = .ok (.invokestatic 102, 3) := by decide +kernel
theorem dX11_listDryings_46 : decode cX11_listDryings 46 = .ok (.iand, 1) := by decide +kernel
theorem dX11_listDryings_47 : decode cX11_listDryings 47 = .ok (.istore 4, 2) := by decide +kernel
theorem dX11_listDryings_49 : decode cX11_listDryings 49 = .ok (.iload_n 2, 1) := by decide +kernel
theorem dX11_listDryings_50 : decode cX11_listDryings 50 = .ok (.iconst 1, 1) := by decide +kernel
theorem dX11_listDryings_51 : decode cX11_listDryings 51 = .ok (.iadd, 1) := by decide +kernel
theorem dX11_listDryings_52 : decode cX11_listDryings 52 = .ok (.istore 5, 2) := by decide +kernel
theorem dX11_listDryings_54 : decode cX11_listDryings 54 = .ok (.iload 5, 2) := by decide +kernel
theorem dX11_listDryings_56 : decode cX11_listDryings 56 = .ok (.bipush 16, 2) := by decide +kernel
theorem dX11_listDryings_58 : decode cX11_listDryings 58 = .ok (.if_icmp .ge 37, 3) := by decide +kernel
theorem dX11_listDryings_61 : decode cX11_listDryings 61 = .ok (.iload 4, 2) := by decide +kernel
theorem dX11_listDryings_63 : decode cX11_listDryings 63 = .ok (.iload 5, 2) := by decide +kernel
theorem dX11_listDryings_65 : decode cX11_listDryings 65 = .ok (.ishr, 1) := by decide +kernel
theorem dX11_listDryings_66 : decode cX11_listDryings 66 = .ok (.iconst 1, 1) := by decide +kernel
theorem dX11_listDryings_67 : decode cX11_listDryings 67 = .ok (.iand, 1) := by decide +kernel
theorem dX11_listDryings_68 : decode cX11_listDryings 68 = .ok (.iconst 1, 1) := by decide +kernel
theorem dX11_listDryings_69 : decode cX11_listDryings 69 = .ok (.if_icmp .ne 20, 3) := by decide +kernel
theorem dX11_listDryings_72 : decode cX11_listDryings 72 = .ok (.aload_n 0, 1) := by decide +kernel
theorem dX11_listDryings_73 : decode cX11_listDryings 73 = .ok (.getfield 72, 3) := by decide +kernel
theorem dX11_listDryings_76 : decode cX11_listDryings 76 = .ok (.iload_n 3, 1) := by decide +kernel
theorem dX11_listDryings_77 : decode cX11_listDryings 77 = .ok (.iconst 1, 1) := by decide +kernel
theorem dX11_listDryings_78 : decode cX11_listDryings 78 = .ok (.iload 5, 2) := by decide +kernel
theorem dX11_listDryings_80 : decode cX11_listDryings 80 = .ok (.iload_n 1, 1) := by decide +kernel
theorem dX11_listDryings_81 : decode cX11_listDryings 81 = .ok (.invokestatic 333, 3) := by decide +kernel
theorem dX11_listDryings_84 : decode cX11_listDryings 84 = .ok (.ishl, 1) := by decide +kernel
theorem dX11_listDryings_85 : decode cX11_listDryings 85 = .ok (.ior, 1) := by decide +kernel
theorem dX11_listDryings_86 : decode cX11_listDryings 86 = .ok (.invokevirtual 164, 3) := by decide +kernel
theorem dX11_listDryings_89 : decode cX11_listDryings 89 = .ok (.iinc 5 1, 3) := by decide +kernel
theorem dX11_listDryings_92 : decode cX11_listDryings 92 = .ok (.goto (-38), 3) := by decide +kernel
theorem dX11_listDryings_95 : decode cX11_listDryings 95 = .ok (.iinc 2 1, 3) := by decide +kernel
theorem dX11_listDryings_98 : decode cX11_listDryings 98 = .ok (.goto (-88), 3) := by decide +kernel
theorem dX11_listDryings_101 : decode cX11_listDryings 101 = .ok (.return_, 1) := by decide +kernel
theorem u116_0 {d : Nat} {R : gR} {μ : gM} {l1 l2 l3 l4 l5 : Value} {st : List Value} {x : Nat}  : gc_W (gc_S d) cX11_listDryings 11 2 R 0 [.ref x, l1, l2, l3, l4, l5] st μ ↔ gc_W (gc_S d) cX11_listDryings 11 2 R 1 [.ref x, l1, l2, l3, l4, l5] (.ref x :: st) μ := us_aload_n dX11_listDryings_0 rfl
theorem u116_1 {d : Nat} {R : gR} {μ : gM} {L : List Value} {st : List Value} {o : Nat} (hk : gc_kd o = 11) : gc_W (gc_S d) cX11_listDryings 11 2 R 1 L (.ref o :: st) μ ↔ gc_W (gc_S d) cX11_listDryings 11 2 R 4 L (gc_fv o 7 μ :: st) μ := us_getf dX11_listDryings_1 gf_11_72 hk
theorem u116_4 {d : Nat} {R : gR} {μ : gM} {L : List Value} {st : List Value}   : gc_W (gc_S d) cX11_listDryings 11 2 R 4 L st μ ↔ gc_W (gc_S d) cX11_listDryings 11 2 R 5 L (.int 0 :: st) μ := us_iconst dX11_listDryings_4 ci_iconst_0
theorem u116_5 {d : Nat} {R : gR} {μ : gM} {L : List Value} {st : List Value} {o : Nat} {x : Int32} (hk : gc_kd o = 7) (hj : gc_fk o 1 = 0) : gc_W (gc_S d) cX11_listDryings 11 2 R 5 L (.int x :: .ref o :: st) μ ↔ gc_W (gc_S d) cX11_listDryings 11 2 R 8 L st (gc_up μ o 1 x) := us_putf dX11_listDryings_5 gf_11_161 hk hj rfl
theorem u116_8 {d : Nat} {R : gR} {μ : gM} {L : List Value} {st : List Value}   : gc_W (gc_S d) cX11_listDryings 11 2 R 8 L st μ ↔ gc_W (gc_S d) cX11_listDryings 11 2 R 9 L (.int 0 :: st) μ := us_iconst dX11_listDryings_8 ci_iconst_0
theorem u116_9 {d : Nat} {R : gR} {μ : gM} {l0 l1 l2 l3 l4 l5 : Value} {st : List Value} {x : Int32} (hs : gc_sk l2 = true) : gc_W (gc_S d) cX11_listDryings 11 2 R 9 [l0, l1, l2, l3, l4, l5] (.int x :: st) μ ↔ gc_W (gc_S d) cX11_listDryings 11 2 R 10 [l0, l1, .int x, l3, l4, l5] st μ := us_istore_n dX11_listDryings_9 rfl hs
theorem u116_10 {d : Nat} {R : gR} {μ : gM} {l0 l1 l3 l4 l5 : Value} {st : List Value} {x : Int32}  : gc_W (gc_S d) cX11_listDryings 11 2 R 10 [l0, l1, .int x, l3, l4, l5] st μ ↔ gc_W (gc_S d) cX11_listDryings 11 2 R 11 [l0, l1, .int x, l3, l4, l5] (.int x :: st) μ := us_iload_n dX11_listDryings_10 rfl
theorem u116_11 {d : Nat} {R : gR} {μ : gM} {L : List Value} {st : List Value}   : gc_W (gc_S d) cX11_listDryings 11 2 R 11 L st μ ↔ gc_W (gc_S d) cX11_listDryings 11 2 R 13 L (.int 16 :: st) μ := us_bipush dX11_listDryings_11 ci_bipush_16
theorem u116_13 {d : Nat} {R : gR} {μ : gM} {L : List Value} {st : List Value} {x y : Int32}  : gc_W (gc_S d) cX11_listDryings 11 2 R 13 L (.int y :: .int x :: st) μ ↔ if y ≤ x then gc_W (gc_S d) cX11_listDryings 11 2 R 101 L st μ else gc_W (gc_S d) cX11_listDryings 11 2 R 16 L st μ := us_icge dX11_listDryings_13 rfl
theorem u116_16 {d : Nat} {R : gR} {μ : gM} {l0 l2 l3 l4 l5 : Value} {st : List Value} {x : Int32}  : gc_W (gc_S d) cX11_listDryings 11 2 R 16 [l0, .int x, l2, l3, l4, l5] st μ ↔ gc_W (gc_S d) cX11_listDryings 11 2 R 17 [l0, .int x, l2, l3, l4, l5] (.int x :: st) μ := us_iload_n dX11_listDryings_16 rfl
theorem u116_17 {d : Nat} {R : gR} {μ : gM} {l0 l1 l3 l4 l5 : Value} {st : List Value} {x : Int32}  : gc_W (gc_S d) cX11_listDryings 11 2 R 17 [l0, l1, .int x, l3, l4, l5] st μ ↔ gc_W (gc_S d) cX11_listDryings 11 2 R 18 [l0, l1, .int x, l3, l4, l5] (.int x :: st) μ := us_iload_n dX11_listDryings_17 rfl
theorem u116_18 {d : Nat} {R : gR} {μ : gM} {L : List Value} {st : List Value} {x y : Int32}  : gc_W (gc_S d) cX11_listDryings 11 2 R 18 L (.int y :: .int x :: st) μ ↔ gc_W (gc_S d) cX11_listDryings 11 2 R 19 L (.int (x >>> (y &&& 31)) :: st) μ := us_ishr dX11_listDryings_18
theorem u116_19 {d : Nat} {R : gR} {μ : gM} {L : List Value} {st : List Value}   : gc_W (gc_S d) cX11_listDryings 11 2 R 19 L st μ ↔ gc_W (gc_S d) cX11_listDryings 11 2 R 20 L (.int 1 :: st) μ := us_iconst dX11_listDryings_19 ci_iconst_1
theorem u116_20 {d : Nat} {R : gR} {μ : gM} {L : List Value} {st : List Value} {x y : Int32}  : gc_W (gc_S d) cX11_listDryings 11 2 R 20 L (.int y :: .int x :: st) μ ↔ gc_W (gc_S d) cX11_listDryings 11 2 R 21 L (.int (x &&& y) :: st) μ := us_iand dX11_listDryings_20
theorem u116_21 {d : Nat} {R : gR} {μ : gM} {L : List Value} {st : List Value}   : gc_W (gc_S d) cX11_listDryings 11 2 R 21 L st μ ↔ gc_W (gc_S d) cX11_listDryings 11 2 R 22 L (.int 1 :: st) μ := us_iconst dX11_listDryings_21 ci_iconst_1
theorem u116_22 {d : Nat} {R : gR} {μ : gM} {L : List Value} {st : List Value} {x y : Int32}  : gc_W (gc_S d) cX11_listDryings 11 2 R 22 L (.int y :: .int x :: st) μ ↔ if x = y then gc_W (gc_S d) cX11_listDryings 11 2 R 25 L st μ else gc_W (gc_S d) cX11_listDryings 11 2 R 95 L st μ := us_icne dX11_listDryings_22 rfl
theorem u116_25 {d : Nat} {R : gR} {μ : gM} {L : List Value} {st : List Value}   : gc_W (gc_S d) cX11_listDryings 11 2 R 25 L st μ ↔ gc_W (gc_S d) cX11_listDryings 11 2 R 26 L (.int 1 :: st) μ := us_iconst dX11_listDryings_25 ci_iconst_1
theorem u116_26 {d : Nat} {R : gR} {μ : gM} {l0 l1 l3 l4 l5 : Value} {st : List Value} {x : Int32}  : gc_W (gc_S d) cX11_listDryings 11 2 R 26 [l0, l1, .int x, l3, l4, l5] st μ ↔ gc_W (gc_S d) cX11_listDryings 11 2 R 27 [l0, l1, .int x, l3, l4, l5] (.int x :: st) μ := us_iload_n dX11_listDryings_26 rfl
theorem u116_27 {d : Nat} {R : gR} {μ : gM} {l0 l2 l3 l4 l5 : Value} {st : List Value} {x : Int32}  : gc_W (gc_S d) cX11_listDryings 11 2 R 27 [l0, .int x, l2, l3, l4, l5] st μ ↔ gc_W (gc_S d) cX11_listDryings 11 2 R 28 [l0, .int x, l2, l3, l4, l5] (.int x :: st) μ := us_iload_n dX11_listDryings_27 rfl
theorem u116_28 {d : Nat} {R : gR} {μ : gM} {L : List Value}  {a0 a1 : Int32} {s0 : Value}  : gc_W (gc_S d) cX11_listDryings 11 2 R 28 L [.int a1, .int a0, s0] μ ↔ gc_S d 115 [.int a0, .int a1] μ (fun v μ' => gc_W (gc_S d) cX11_listDryings 11 2 R 31 L (v.toList ++ [s0]) μ') := us_stat dX11_listDryings_28 gs_11_333 gne_11_333 gn_11_333 gc_11_333_97 rfl rfl rfl rfl
theorem u116_31 {d : Nat} {R : gR} {μ : gM} {L : List Value} {st : List Value} {x y : Int32}  : gc_W (gc_S d) cX11_listDryings 11 2 R 31 L (.int y :: .int x :: st) μ ↔ gc_W (gc_S d) cX11_listDryings 11 2 R 32 L (.int (x <<< (y &&& 31)) :: st) μ := us_ishl dX11_listDryings_31
theorem u116_32 {d : Nat} {R : gR} {μ : gM} {l0 l1 l2 l3 l4 l5 : Value} {st : List Value} {x : Int32} (hs : gc_sk l3 = true) : gc_W (gc_S d) cX11_listDryings 11 2 R 32 [l0, l1, l2, l3, l4, l5] (.int x :: st) μ ↔ gc_W (gc_S d) cX11_listDryings 11 2 R 33 [l0, l1, l2, .int x, l4, l5] st μ := us_istore_n dX11_listDryings_32 rfl hs
theorem u116_33 {d : Nat} {R : gR} {μ : gM} {l1 l2 l3 l4 l5 : Value} {st : List Value} {x : Nat}  : gc_W (gc_S d) cX11_listDryings 11 2 R 33 [.ref x, l1, l2, l3, l4, l5] st μ ↔ gc_W (gc_S d) cX11_listDryings 11 2 R 34 [.ref x, l1, l2, l3, l4, l5] (.ref x :: st) μ := us_aload_n dX11_listDryings_33 rfl
theorem u116_34 {d : Nat} {R : gR} {μ : gM} {L : List Value} {st : List Value} {o : Nat} (hk : gc_kd o = 11) : gc_W (gc_S d) cX11_listDryings 11 2 R 34 L (.ref o :: st) μ ↔ gc_W (gc_S d) cX11_listDryings 11 2 R 37 L (gc_fv o 7 μ :: st) μ := us_getf dX11_listDryings_34 gf_11_72 hk
theorem u116_37 {d : Nat} {R : gR} {μ : gM} {l0 l1 l2 l4 l5 : Value} {st : List Value} {x : Int32}  : gc_W (gc_S d) cX11_listDryings 11 2 R 37 [l0, l1, l2, .int x, l4, l5] st μ ↔ gc_W (gc_S d) cX11_listDryings 11 2 R 38 [l0, l1, l2, .int x, l4, l5] (.int x :: st) μ := us_iload_n dX11_listDryings_37 rfl
theorem u116_38 {d : Nat} {R : gR} {μ : gM} {L : List Value} {o : Nat} {a0 : Int32} (hk : gc_kd o = 7) : gc_W (gc_S d) cX11_listDryings 11 2 R 38 L [.int a0, .ref o] μ ↔ gc_S d 41 [.ref o, .int a0] μ (fun v μ' => gc_W (gc_S d) cX11_listDryings 11 2 R 41 L (v.toList ++ []) μ') := us_virt dX11_listDryings_38 gn_11_164 gc_11_164_7 hk rfl rfl rfl rfl rfl
theorem u116_41 {d : Nat} {R : gR} {μ : gM} {l0 l2 l3 l4 l5 : Value} {st : List Value} {x : Int32}  : gc_W (gc_S d) cX11_listDryings 11 2 R 41 [l0, .int x, l2, l3, l4, l5] st μ ↔ gc_W (gc_S d) cX11_listDryings 11 2 R 42 [l0, .int x, l2, l3, l4, l5] (.int x :: st) μ := us_iload_n dX11_listDryings_41 rfl
theorem u116_42 {d : Nat} {R : gR} {μ : gM} {l0 l1 l3 l4 l5 : Value} {st : List Value} {x : Int32}  : gc_W (gc_S d) cX11_listDryings 11 2 R 42 [l0, l1, .int x, l3, l4, l5] st μ ↔ gc_W (gc_S d) cX11_listDryings 11 2 R 43 [l0, l1, .int x, l3, l4, l5] (.int x :: st) μ := us_iload_n dX11_listDryings_42 rfl
theorem u116_43 {d : Nat} {R : gR} {μ : gM} {L : List Value}  {a0 : Int32} {s0 : Value}  : gc_W (gc_S d) cX11_listDryings 11 2 R 43 L [.int a0, s0] μ ↔ gc_S d 29 [.int a0] μ (fun v μ' => gc_W (gc_S d) cX11_listDryings 11 2 R 46 L (v.toList ++ [s0]) μ') := us_stat dX11_listDryings_43 gs_11_102 gne_11_102 gn_11_102 gc_11_102_97 rfl rfl rfl rfl
theorem u116_46 {d : Nat} {R : gR} {μ : gM} {L : List Value} {st : List Value} {x y : Int32}  : gc_W (gc_S d) cX11_listDryings 11 2 R 46 L (.int y :: .int x :: st) μ ↔ gc_W (gc_S d) cX11_listDryings 11 2 R 47 L (.int (x &&& y) :: st) μ := us_iand dX11_listDryings_46
theorem u116_47 {d : Nat} {R : gR} {μ : gM} {l0 l1 l2 l3 l4 l5 : Value} {st : List Value} {x : Int32} (hs : gc_sk l4 = true) : gc_W (gc_S d) cX11_listDryings 11 2 R 47 [l0, l1, l2, l3, l4, l5] (.int x :: st) μ ↔ gc_W (gc_S d) cX11_listDryings 11 2 R 49 [l0, l1, l2, l3, .int x, l5] st μ := us_istore dX11_listDryings_47 rfl hs
theorem u116_49 {d : Nat} {R : gR} {μ : gM} {l0 l1 l3 l4 l5 : Value} {st : List Value} {x : Int32}  : gc_W (gc_S d) cX11_listDryings 11 2 R 49 [l0, l1, .int x, l3, l4, l5] st μ ↔ gc_W (gc_S d) cX11_listDryings 11 2 R 50 [l0, l1, .int x, l3, l4, l5] (.int x :: st) μ := us_iload_n dX11_listDryings_49 rfl
theorem u116_50 {d : Nat} {R : gR} {μ : gM} {L : List Value} {st : List Value}   : gc_W (gc_S d) cX11_listDryings 11 2 R 50 L st μ ↔ gc_W (gc_S d) cX11_listDryings 11 2 R 51 L (.int 1 :: st) μ := us_iconst dX11_listDryings_50 ci_iconst_1
theorem u116_51 {d : Nat} {R : gR} {μ : gM} {L : List Value} {st : List Value} {x y : Int32}  : gc_W (gc_S d) cX11_listDryings 11 2 R 51 L (.int y :: .int x :: st) μ ↔ gc_W (gc_S d) cX11_listDryings 11 2 R 52 L (.int (x + y) :: st) μ := us_iadd dX11_listDryings_51
theorem u116_52 {d : Nat} {R : gR} {μ : gM} {l0 l1 l2 l3 l4 l5 : Value} {st : List Value} {x : Int32} (hs : gc_sk l5 = true) : gc_W (gc_S d) cX11_listDryings 11 2 R 52 [l0, l1, l2, l3, l4, l5] (.int x :: st) μ ↔ gc_W (gc_S d) cX11_listDryings 11 2 R 54 [l0, l1, l2, l3, l4, .int x] st μ := us_istore dX11_listDryings_52 rfl hs
theorem u116_54 {d : Nat} {R : gR} {μ : gM} {l0 l1 l2 l3 l4 : Value} {st : List Value} {x : Int32}  : gc_W (gc_S d) cX11_listDryings 11 2 R 54 [l0, l1, l2, l3, l4, .int x] st μ ↔ gc_W (gc_S d) cX11_listDryings 11 2 R 56 [l0, l1, l2, l3, l4, .int x] (.int x :: st) μ := us_iload dX11_listDryings_54 rfl
theorem u116_56 {d : Nat} {R : gR} {μ : gM} {L : List Value} {st : List Value}   : gc_W (gc_S d) cX11_listDryings 11 2 R 56 L st μ ↔ gc_W (gc_S d) cX11_listDryings 11 2 R 58 L (.int 16 :: st) μ := us_bipush dX11_listDryings_56 ci_bipush_16
theorem u116_58 {d : Nat} {R : gR} {μ : gM} {L : List Value} {st : List Value} {x y : Int32}  : gc_W (gc_S d) cX11_listDryings 11 2 R 58 L (.int y :: .int x :: st) μ ↔ if y ≤ x then gc_W (gc_S d) cX11_listDryings 11 2 R 95 L st μ else gc_W (gc_S d) cX11_listDryings 11 2 R 61 L st μ := us_icge dX11_listDryings_58 rfl
theorem u116_61 {d : Nat} {R : gR} {μ : gM} {l0 l1 l2 l3 l5 : Value} {st : List Value} {x : Int32}  : gc_W (gc_S d) cX11_listDryings 11 2 R 61 [l0, l1, l2, l3, .int x, l5] st μ ↔ gc_W (gc_S d) cX11_listDryings 11 2 R 63 [l0, l1, l2, l3, .int x, l5] (.int x :: st) μ := us_iload dX11_listDryings_61 rfl
theorem u116_63 {d : Nat} {R : gR} {μ : gM} {l0 l1 l2 l3 l4 : Value} {st : List Value} {x : Int32}  : gc_W (gc_S d) cX11_listDryings 11 2 R 63 [l0, l1, l2, l3, l4, .int x] st μ ↔ gc_W (gc_S d) cX11_listDryings 11 2 R 65 [l0, l1, l2, l3, l4, .int x] (.int x :: st) μ := us_iload dX11_listDryings_63 rfl
theorem u116_65 {d : Nat} {R : gR} {μ : gM} {L : List Value} {st : List Value} {x y : Int32}  : gc_W (gc_S d) cX11_listDryings 11 2 R 65 L (.int y :: .int x :: st) μ ↔ gc_W (gc_S d) cX11_listDryings 11 2 R 66 L (.int (x >>> (y &&& 31)) :: st) μ := us_ishr dX11_listDryings_65
theorem u116_66 {d : Nat} {R : gR} {μ : gM} {L : List Value} {st : List Value}   : gc_W (gc_S d) cX11_listDryings 11 2 R 66 L st μ ↔ gc_W (gc_S d) cX11_listDryings 11 2 R 67 L (.int 1 :: st) μ := us_iconst dX11_listDryings_66 ci_iconst_1
theorem u116_67 {d : Nat} {R : gR} {μ : gM} {L : List Value} {st : List Value} {x y : Int32}  : gc_W (gc_S d) cX11_listDryings 11 2 R 67 L (.int y :: .int x :: st) μ ↔ gc_W (gc_S d) cX11_listDryings 11 2 R 68 L (.int (x &&& y) :: st) μ := us_iand dX11_listDryings_67
theorem u116_68 {d : Nat} {R : gR} {μ : gM} {L : List Value} {st : List Value}   : gc_W (gc_S d) cX11_listDryings 11 2 R 68 L st μ ↔ gc_W (gc_S d) cX11_listDryings 11 2 R 69 L (.int 1 :: st) μ := us_iconst dX11_listDryings_68 ci_iconst_1
theorem u116_69 {d : Nat} {R : gR} {μ : gM} {L : List Value} {st : List Value} {x y : Int32}  : gc_W (gc_S d) cX11_listDryings 11 2 R 69 L (.int y :: .int x :: st) μ ↔ if x = y then gc_W (gc_S d) cX11_listDryings 11 2 R 72 L st μ else gc_W (gc_S d) cX11_listDryings 11 2 R 89 L st μ := us_icne dX11_listDryings_69 rfl
theorem u116_72 {d : Nat} {R : gR} {μ : gM} {l1 l2 l3 l4 l5 : Value} {st : List Value} {x : Nat}  : gc_W (gc_S d) cX11_listDryings 11 2 R 72 [.ref x, l1, l2, l3, l4, l5] st μ ↔ gc_W (gc_S d) cX11_listDryings 11 2 R 73 [.ref x, l1, l2, l3, l4, l5] (.ref x :: st) μ := us_aload_n dX11_listDryings_72 rfl
theorem u116_73 {d : Nat} {R : gR} {μ : gM} {L : List Value} {st : List Value} {o : Nat} (hk : gc_kd o = 11) : gc_W (gc_S d) cX11_listDryings 11 2 R 73 L (.ref o :: st) μ ↔ gc_W (gc_S d) cX11_listDryings 11 2 R 76 L (gc_fv o 7 μ :: st) μ := us_getf dX11_listDryings_73 gf_11_72 hk
theorem u116_76 {d : Nat} {R : gR} {μ : gM} {l0 l1 l2 l4 l5 : Value} {st : List Value} {x : Int32}  : gc_W (gc_S d) cX11_listDryings 11 2 R 76 [l0, l1, l2, .int x, l4, l5] st μ ↔ gc_W (gc_S d) cX11_listDryings 11 2 R 77 [l0, l1, l2, .int x, l4, l5] (.int x :: st) μ := us_iload_n dX11_listDryings_76 rfl
theorem u116_77 {d : Nat} {R : gR} {μ : gM} {L : List Value} {st : List Value}   : gc_W (gc_S d) cX11_listDryings 11 2 R 77 L st μ ↔ gc_W (gc_S d) cX11_listDryings 11 2 R 78 L (.int 1 :: st) μ := us_iconst dX11_listDryings_77 ci_iconst_1
theorem u116_78 {d : Nat} {R : gR} {μ : gM} {l0 l1 l2 l3 l4 : Value} {st : List Value} {x : Int32}  : gc_W (gc_S d) cX11_listDryings 11 2 R 78 [l0, l1, l2, l3, l4, .int x] st μ ↔ gc_W (gc_S d) cX11_listDryings 11 2 R 80 [l0, l1, l2, l3, l4, .int x] (.int x :: st) μ := us_iload dX11_listDryings_78 rfl
theorem u116_80 {d : Nat} {R : gR} {μ : gM} {l0 l2 l3 l4 l5 : Value} {st : List Value} {x : Int32}  : gc_W (gc_S d) cX11_listDryings 11 2 R 80 [l0, .int x, l2, l3, l4, l5] st μ ↔ gc_W (gc_S d) cX11_listDryings 11 2 R 81 [l0, .int x, l2, l3, l4, l5] (.int x :: st) μ := us_iload_n dX11_listDryings_80 rfl
theorem u116_81 {d : Nat} {R : gR} {μ : gM} {L : List Value}  {a0 a1 : Int32} {s0 s1 s2 : Value}  : gc_W (gc_S d) cX11_listDryings 11 2 R 81 L [.int a1, .int a0, s0, s1, s2] μ ↔ gc_S d 115 [.int a0, .int a1] μ (fun v μ' => gc_W (gc_S d) cX11_listDryings 11 2 R 84 L (v.toList ++ [s0, s1, s2]) μ') := us_stat dX11_listDryings_81 gs_11_333 gne_11_333 gn_11_333 gc_11_333_97 rfl rfl rfl rfl
theorem u116_84 {d : Nat} {R : gR} {μ : gM} {L : List Value} {st : List Value} {x y : Int32}  : gc_W (gc_S d) cX11_listDryings 11 2 R 84 L (.int y :: .int x :: st) μ ↔ gc_W (gc_S d) cX11_listDryings 11 2 R 85 L (.int (x <<< (y &&& 31)) :: st) μ := us_ishl dX11_listDryings_84
theorem u116_85 {d : Nat} {R : gR} {μ : gM} {L : List Value} {st : List Value} {x y : Int32}  : gc_W (gc_S d) cX11_listDryings 11 2 R 85 L (.int y :: .int x :: st) μ ↔ gc_W (gc_S d) cX11_listDryings 11 2 R 86 L (.int (x ||| y) :: st) μ := us_ior dX11_listDryings_85
theorem u116_86 {d : Nat} {R : gR} {μ : gM} {L : List Value} {o : Nat} {a0 : Int32} (hk : gc_kd o = 7) : gc_W (gc_S d) cX11_listDryings 11 2 R 86 L [.int a0, .ref o] μ ↔ gc_S d 41 [.ref o, .int a0] μ (fun v μ' => gc_W (gc_S d) cX11_listDryings 11 2 R 89 L (v.toList ++ []) μ') := us_virt dX11_listDryings_86 gn_11_164 gc_11_164_7 hk rfl rfl rfl rfl rfl
theorem u116_89 {d : Nat} {R : gR} {μ : gM} {l0 l1 l2 l3 l4 : Value} {st : List Value} {x : Int32}  : gc_W (gc_S d) cX11_listDryings 11 2 R 89 [l0, l1, l2, l3, l4, .int x] st μ ↔ gc_W (gc_S d) cX11_listDryings 11 2 R 92 [l0, l1, l2, l3, l4, .int (x + 1)] st μ := us_iinc dX11_listDryings_89 rfl ci_iinc_1
theorem u116_92 {d : Nat} {R : gR} {μ : gM} {L : List Value} {st : List Value}  : gc_W (gc_S d) cX11_listDryings 11 2 R 92 L st μ ↔ gc_W (gc_S d) cX11_listDryings 11 2 R 54 L st μ := us_goto dX11_listDryings_92 rfl
theorem u116_95 {d : Nat} {R : gR} {μ : gM} {l0 l1 l3 l4 l5 : Value} {st : List Value} {x : Int32}  : gc_W (gc_S d) cX11_listDryings 11 2 R 95 [l0, l1, .int x, l3, l4, l5] st μ ↔ gc_W (gc_S d) cX11_listDryings 11 2 R 98 [l0, l1, .int (x + 1), l3, l4, l5] st μ := us_iinc dX11_listDryings_95 rfl ci_iinc_1
theorem u116_98 {d : Nat} {R : gR} {μ : gM} {L : List Value} {st : List Value}  : gc_W (gc_S d) cX11_listDryings 11 2 R 98 L st μ ↔ gc_W (gc_S d) cX11_listDryings 11 2 R 10 L st μ := us_goto dX11_listDryings_98 rfl
theorem u116_101 {d : Nat} {R : gR} {μ : gM} {L : List Value}   : gc_W (gc_S d) cX11_listDryings 11 2 R 101 L [] μ ↔ R none μ := us_vret dX11_listDryings_101 rfl
theorem s116 {d : Nat} {R : gR} {μ : gM} {o : Nat} {a0 : Int32} : gc_S (d + 1) 116 [.ref o, .int a0] μ R ↔ gc_W (gc_S d) cX11_listDryings 11 2 R 0 [.ref o, .int a0, .retAddr 0, .retAddr 0, .retAddr 0, .retAddr 0] [] μ := us_call (gm_116) rfl rfl
theorem dX11_leastToWinRanked_0 : decode cX11_leastToWinRanked 0 = .ok (.iconst 0, 1) := by decide +kernel
theorem dX11_leastToWinRanked_1 : decode cX11_leastToWinRanked 1 = .ok (.istore_n 2, 1) := by decide +kernel
theorem dX11_leastToWinRanked_2 : decode cX11_leastToWinRanked 2 = .ok (.iconst 0, 1) := by decide +kernel
theorem dX11_leastToWinRanked_3 : decode cX11_leastToWinRanked 3 = .ok (.istore_n 3, 1) := by decide +kernel
theorem dX11_leastToWinRanked_4 : decode cX11_leastToWinRanked 4 = .ok (.iload_n 3, 1) := by decide +kernel
theorem dX11_leastToWinRanked_5 : decode cX11_leastToWinRanked 5 = .ok (.aload_n 0, 1) := by decide +kernel
theorem dX11_leastToWinRanked_6 : decode cX11_leastToWinRanked 6 = .ok (.getfield 72, 3) := by decide +kernel
theorem dX11_leastToWinRanked_9 : decode cX11_leastToWinRanked 9 = .ok (.getfield 161, 3) := by decide +kernel
theorem dX11_leastToWinRanked_12 : decode cX11_leastToWinRanked 12 = .ok (.if_icmp .ge 54, 3) := by decide +kernel
theorem dX11_leastToWinRanked_15 : decode cX11_leastToWinRanked 15 = .ok (.aload_n 0, 1) := by decide +kernel
theorem dX11_leastToWinRanked_16 : decode cX11_leastToWinRanked 16 = .ok (.getfield 72, 3) := by decide +kernel
theorem dX11_leastToWinRanked_19 : decode cX11_leastToWinRanked 19 = .ok (.getfield 273, 3) := by decide +kernel
theorem dX11_leastToWinRanked_22 : decode cX11_leastToWinRanked 22 = .ok (.iload_n 3, 1) := by decide +kernel
theorem dX11_leastToWinRanked_23 : decode cX11_leastToWinRanked 23 = .ok (.iaload, 1) := by decide +kernel
theorem dX11_leastToWinRanked_24 : decode cX11_leastToWinRanked 24 = .ok (.istore 4, 2) := by decide +kernel
theorem dX11_leastToWinRanked_26 : decode cX11_leastToWinRanked 26 = .ok (.iload_n 1, 1) := by decide +kernel
theorem dX11_leastToWinRanked_27 : decode cX11_leastToWinRanked 27 = .ok (.iload 4, 2) := by decide +kernel
theorem dX11_leastToWinRanked_29 : decode cX11_leastToWinRanked 29 = .ok (.iand, 1) := by decide +kernel
theorem dX11_leastToWinRanked_30 : decode cX11_leastToWinRanked 30 = .ok (.iload 4, 2) := by decide +kernel
theorem dX11_leastToWinRanked_32 : decode cX11_leastToWinRanked 32 = .ok (.if_icmp .ne 28, 3) := by decide +kernel
theorem dX11_leastToWinRanked_35 : decode cX11_leastToWinRanked 35 = .ok (.aload_n 0, 1) := by decide +kernel
theorem dX11_leastToWinRanked_36 : decode cX11_leastToWinRanked 36 = .ok (.getfield 76, 3) := by decide +kernel
theorem dX11_leastToWinRanked_39 : decode cX11_leastToWinRanked 39 = .ok (.iload_n 1, 1) := by decide +kernel
theorem dX11_leastToWinRanked_40 : decode cX11_leastToWinRanked 40 = .ok (.iload 4, 2) := by decide +kernel
theorem dX11_leastToWinRanked_42 : decode cX11_leastToWinRanked 42 = .ok (.ixor, 1) := by decide +kernel
theorem dX11_leastToWinRanked_43 : decode cX11_leastToWinRanked 43 = .ok (.baload, 1) := by decide +kernel
theorem dX11_leastToWinRanked_44 : decode cX11_leastToWinRanked 44 = .ok (.ifCond .ne 16, 3) := by decide +kernel
theorem dX11_leastToWinRanked_47 : decode cX11_leastToWinRanked 47 = .ok (.iload_n 2, 1) := by decide +kernel
theorem dX11_leastToWinRanked_48 : decode cX11_leastToWinRanked 48 = .ok (.ifCond .eq 9, 3) := by decide +kernel
theorem dX11_leastToWinRanked_51 : decode cX11_leastToWinRanked 51 = .ok (.iload 4, 2) := by decide +kernel
theorem dX11_leastToWinRanked_53 : decode cX11_leastToWinRanked 53 = .ok (.iload_n 2, 1) := by decide +kernel
theorem dX11_leastToWinRanked_54 : decode cX11_leastToWinRanked 54 = .ok (.if_icmp .ge 6, 3) := by decide +kernel
theorem dX11_leastToWinRanked_57 : decode cX11_leastToWinRanked 57 = .ok (.iload 4, 2) := by decide +kernel
theorem dX11_leastToWinRanked_59 : decode cX11_leastToWinRanked 59 = .ok (.istore_n 2, 1) := by decide +kernel
theorem dX11_leastToWinRanked_60 : decode cX11_leastToWinRanked 60 = .ok (.iinc 3 1, 3) := by decide +kernel
theorem dX11_leastToWinRanked_63 : decode cX11_leastToWinRanked 63 = .ok (.goto (-59), 3) := by decide +kernel
theorem dX11_leastToWinRanked_66 : decode cX11_leastToWinRanked 66 = .ok (.iload_n 2, 1) := by decide +kernel
theorem dX11_leastToWinRanked_67 : decode cX11_leastToWinRanked 67 = .ok (.ireturn, 1) := by decide +kernel
theorem u117_0 {d : Nat} {R : gR} {μ : gM} {L : List Value} {st : List Value}   : gc_W (gc_S d) cX11_leastToWinRanked 11 0 R 0 L st μ ↔ gc_W (gc_S d) cX11_leastToWinRanked 11 0 R 1 L (.int 0 :: st) μ := us_iconst dX11_leastToWinRanked_0 ci_iconst_0
theorem u117_1 {d : Nat} {R : gR} {μ : gM} {l0 l1 l2 l3 l4 : Value} {st : List Value} {x : Int32} (hs : gc_sk l2 = true) : gc_W (gc_S d) cX11_leastToWinRanked 11 0 R 1 [l0, l1, l2, l3, l4] (.int x :: st) μ ↔ gc_W (gc_S d) cX11_leastToWinRanked 11 0 R 2 [l0, l1, .int x, l3, l4] st μ := us_istore_n dX11_leastToWinRanked_1 rfl hs
theorem u117_2 {d : Nat} {R : gR} {μ : gM} {L : List Value} {st : List Value}   : gc_W (gc_S d) cX11_leastToWinRanked 11 0 R 2 L st μ ↔ gc_W (gc_S d) cX11_leastToWinRanked 11 0 R 3 L (.int 0 :: st) μ := us_iconst dX11_leastToWinRanked_2 ci_iconst_0
theorem u117_3 {d : Nat} {R : gR} {μ : gM} {l0 l1 l2 l3 l4 : Value} {st : List Value} {x : Int32} (hs : gc_sk l3 = true) : gc_W (gc_S d) cX11_leastToWinRanked 11 0 R 3 [l0, l1, l2, l3, l4] (.int x :: st) μ ↔ gc_W (gc_S d) cX11_leastToWinRanked 11 0 R 4 [l0, l1, l2, .int x, l4] st μ := us_istore_n dX11_leastToWinRanked_3 rfl hs
theorem u117_4 {d : Nat} {R : gR} {μ : gM} {l0 l1 l2 l4 : Value} {st : List Value} {x : Int32}  : gc_W (gc_S d) cX11_leastToWinRanked 11 0 R 4 [l0, l1, l2, .int x, l4] st μ ↔ gc_W (gc_S d) cX11_leastToWinRanked 11 0 R 5 [l0, l1, l2, .int x, l4] (.int x :: st) μ := us_iload_n dX11_leastToWinRanked_4 rfl
theorem u117_5 {d : Nat} {R : gR} {μ : gM} {l1 l2 l3 l4 : Value} {st : List Value} {x : Nat}  : gc_W (gc_S d) cX11_leastToWinRanked 11 0 R 5 [.ref x, l1, l2, l3, l4] st μ ↔ gc_W (gc_S d) cX11_leastToWinRanked 11 0 R 6 [.ref x, l1, l2, l3, l4] (.ref x :: st) μ := us_aload_n dX11_leastToWinRanked_5 rfl
theorem u117_6 {d : Nat} {R : gR} {μ : gM} {L : List Value} {st : List Value} {o : Nat} (hk : gc_kd o = 11) : gc_W (gc_S d) cX11_leastToWinRanked 11 0 R 6 L (.ref o :: st) μ ↔ gc_W (gc_S d) cX11_leastToWinRanked 11 0 R 9 L (gc_fv o 7 μ :: st) μ := us_getf dX11_leastToWinRanked_6 gf_11_72 hk
theorem u117_9 {d : Nat} {R : gR} {μ : gM} {L : List Value} {st : List Value} {o : Nat} (hk : gc_kd o = 7) : gc_W (gc_S d) cX11_leastToWinRanked 11 0 R 9 L (.ref o :: st) μ ↔ gc_W (gc_S d) cX11_leastToWinRanked 11 0 R 12 L (gc_fv o 1 μ :: st) μ := us_getf dX11_leastToWinRanked_9 gf_11_161 hk
theorem u117_12 {d : Nat} {R : gR} {μ : gM} {L : List Value} {st : List Value} {x y : Int32}  : gc_W (gc_S d) cX11_leastToWinRanked 11 0 R 12 L (.int y :: .int x :: st) μ ↔ if y ≤ x then gc_W (gc_S d) cX11_leastToWinRanked 11 0 R 66 L st μ else gc_W (gc_S d) cX11_leastToWinRanked 11 0 R 15 L st μ := us_icge dX11_leastToWinRanked_12 rfl
theorem u117_15 {d : Nat} {R : gR} {μ : gM} {l1 l2 l3 l4 : Value} {st : List Value} {x : Nat}  : gc_W (gc_S d) cX11_leastToWinRanked 11 0 R 15 [.ref x, l1, l2, l3, l4] st μ ↔ gc_W (gc_S d) cX11_leastToWinRanked 11 0 R 16 [.ref x, l1, l2, l3, l4] (.ref x :: st) μ := us_aload_n dX11_leastToWinRanked_15 rfl
theorem u117_16 {d : Nat} {R : gR} {μ : gM} {L : List Value} {st : List Value} {o : Nat} (hk : gc_kd o = 11) : gc_W (gc_S d) cX11_leastToWinRanked 11 0 R 16 L (.ref o :: st) μ ↔ gc_W (gc_S d) cX11_leastToWinRanked 11 0 R 19 L (gc_fv o 7 μ :: st) μ := us_getf dX11_leastToWinRanked_16 gf_11_72 hk
theorem u117_19 {d : Nat} {R : gR} {μ : gM} {L : List Value} {st : List Value} {o : Nat} (hk : gc_kd o = 7) : gc_W (gc_S d) cX11_leastToWinRanked 11 0 R 19 L (.ref o :: st) μ ↔ gc_W (gc_S d) cX11_leastToWinRanked 11 0 R 22 L (gc_fv o 0 μ :: st) μ := us_getf dX11_leastToWinRanked_19 gf_11_273 hk
theorem u117_22 {d : Nat} {R : gR} {μ : gM} {l0 l1 l2 l4 : Value} {st : List Value} {x : Int32}  : gc_W (gc_S d) cX11_leastToWinRanked 11 0 R 22 [l0, l1, l2, .int x, l4] st μ ↔ gc_W (gc_S d) cX11_leastToWinRanked 11 0 R 23 [l0, l1, l2, .int x, l4] (.int x :: st) μ := us_iload_n dX11_leastToWinRanked_22 rfl
theorem u117_23 {d : Nat} {R : gR} {μ : gM} {L : List Value} {st : List Value} {o : Nat} {i : Int32} (hk : gc_kd o = 20) : gc_W (gc_S d) cX11_leastToWinRanked 11 0 R 23 L (.int i :: .ref o :: st) μ ↔ (vp_in i (gc_al o) ∧ gc_W (gc_S d) cX11_leastToWinRanked 11 0 R 24 L (.int (μ o i.toNatClampNeg) :: st) μ) := us_iald dX11_leastToWinRanked_23 hk
theorem u117_24 {d : Nat} {R : gR} {μ : gM} {l0 l1 l2 l3 l4 : Value} {st : List Value} {x : Int32} (hs : gc_sk l4 = true) : gc_W (gc_S d) cX11_leastToWinRanked 11 0 R 24 [l0, l1, l2, l3, l4] (.int x :: st) μ ↔ gc_W (gc_S d) cX11_leastToWinRanked 11 0 R 26 [l0, l1, l2, l3, .int x] st μ := us_istore dX11_leastToWinRanked_24 rfl hs
theorem u117_26 {d : Nat} {R : gR} {μ : gM} {l0 l2 l3 l4 : Value} {st : List Value} {x : Int32}  : gc_W (gc_S d) cX11_leastToWinRanked 11 0 R 26 [l0, .int x, l2, l3, l4] st μ ↔ gc_W (gc_S d) cX11_leastToWinRanked 11 0 R 27 [l0, .int x, l2, l3, l4] (.int x :: st) μ := us_iload_n dX11_leastToWinRanked_26 rfl
theorem u117_27 {d : Nat} {R : gR} {μ : gM} {l0 l1 l2 l3 : Value} {st : List Value} {x : Int32}  : gc_W (gc_S d) cX11_leastToWinRanked 11 0 R 27 [l0, l1, l2, l3, .int x] st μ ↔ gc_W (gc_S d) cX11_leastToWinRanked 11 0 R 29 [l0, l1, l2, l3, .int x] (.int x :: st) μ := us_iload dX11_leastToWinRanked_27 rfl
theorem u117_29 {d : Nat} {R : gR} {μ : gM} {L : List Value} {st : List Value} {x y : Int32}  : gc_W (gc_S d) cX11_leastToWinRanked 11 0 R 29 L (.int y :: .int x :: st) μ ↔ gc_W (gc_S d) cX11_leastToWinRanked 11 0 R 30 L (.int (x &&& y) :: st) μ := us_iand dX11_leastToWinRanked_29
theorem u117_30 {d : Nat} {R : gR} {μ : gM} {l0 l1 l2 l3 : Value} {st : List Value} {x : Int32}  : gc_W (gc_S d) cX11_leastToWinRanked 11 0 R 30 [l0, l1, l2, l3, .int x] st μ ↔ gc_W (gc_S d) cX11_leastToWinRanked 11 0 R 32 [l0, l1, l2, l3, .int x] (.int x :: st) μ := us_iload dX11_leastToWinRanked_30 rfl
theorem u117_32 {d : Nat} {R : gR} {μ : gM} {L : List Value} {st : List Value} {x y : Int32}  : gc_W (gc_S d) cX11_leastToWinRanked 11 0 R 32 L (.int y :: .int x :: st) μ ↔ if x = y then gc_W (gc_S d) cX11_leastToWinRanked 11 0 R 35 L st μ else gc_W (gc_S d) cX11_leastToWinRanked 11 0 R 60 L st μ := us_icne dX11_leastToWinRanked_32 rfl
theorem u117_35 {d : Nat} {R : gR} {μ : gM} {l1 l2 l3 l4 : Value} {st : List Value} {x : Nat}  : gc_W (gc_S d) cX11_leastToWinRanked 11 0 R 35 [.ref x, l1, l2, l3, l4] st μ ↔ gc_W (gc_S d) cX11_leastToWinRanked 11 0 R 36 [.ref x, l1, l2, l3, l4] (.ref x :: st) μ := us_aload_n dX11_leastToWinRanked_35 rfl
theorem u117_36 {d : Nat} {R : gR} {μ : gM} {L : List Value} {st : List Value} {o : Nat} (hk : gc_kd o = 11) : gc_W (gc_S d) cX11_leastToWinRanked 11 0 R 36 L (.ref o :: st) μ ↔ gc_W (gc_S d) cX11_leastToWinRanked 11 0 R 39 L (gc_fv o 8 μ :: st) μ := us_getf dX11_leastToWinRanked_36 gf_11_76 hk
theorem u117_39 {d : Nat} {R : gR} {μ : gM} {l0 l2 l3 l4 : Value} {st : List Value} {x : Int32}  : gc_W (gc_S d) cX11_leastToWinRanked 11 0 R 39 [l0, .int x, l2, l3, l4] st μ ↔ gc_W (gc_S d) cX11_leastToWinRanked 11 0 R 40 [l0, .int x, l2, l3, l4] (.int x :: st) μ := us_iload_n dX11_leastToWinRanked_39 rfl
theorem u117_40 {d : Nat} {R : gR} {μ : gM} {l0 l1 l2 l3 : Value} {st : List Value} {x : Int32}  : gc_W (gc_S d) cX11_leastToWinRanked 11 0 R 40 [l0, l1, l2, l3, .int x] st μ ↔ gc_W (gc_S d) cX11_leastToWinRanked 11 0 R 42 [l0, l1, l2, l3, .int x] (.int x :: st) μ := us_iload dX11_leastToWinRanked_40 rfl
theorem u117_42 {d : Nat} {R : gR} {μ : gM} {L : List Value} {st : List Value} {x y : Int32}  : gc_W (gc_S d) cX11_leastToWinRanked 11 0 R 42 L (.int y :: .int x :: st) μ ↔ gc_W (gc_S d) cX11_leastToWinRanked 11 0 R 43 L (.int (x ^^^ y) :: st) μ := us_ixor dX11_leastToWinRanked_42
theorem u117_43 {d : Nat} {R : gR} {μ : gM} {L : List Value} {st : List Value} {o : Nat} {i : Int32} (hk : gc_kd o = 21) : gc_W (gc_S d) cX11_leastToWinRanked 11 0 R 43 L (.int i :: .ref o :: st) μ ↔ (vp_in i (gc_al o) ∧ gc_W (gc_S d) cX11_leastToWinRanked 11 0 R 44 L (.int (μ o i.toNatClampNeg) :: st) μ) := us_zald dX11_leastToWinRanked_43 hk
theorem u117_44 {d : Nat} {R : gR} {μ : gM} {L : List Value} {st : List Value} {x : Int32}  : gc_W (gc_S d) cX11_leastToWinRanked 11 0 R 44 L (.int x :: st) μ ↔ if x = 0 then gc_W (gc_S d) cX11_leastToWinRanked 11 0 R 47 L st μ else gc_W (gc_S d) cX11_leastToWinRanked 11 0 R 60 L st μ := us_ifne dX11_leastToWinRanked_44 rfl
theorem u117_47 {d : Nat} {R : gR} {μ : gM} {l0 l1 l3 l4 : Value} {st : List Value} {x : Int32}  : gc_W (gc_S d) cX11_leastToWinRanked 11 0 R 47 [l0, l1, .int x, l3, l4] st μ ↔ gc_W (gc_S d) cX11_leastToWinRanked 11 0 R 48 [l0, l1, .int x, l3, l4] (.int x :: st) μ := us_iload_n dX11_leastToWinRanked_47 rfl
theorem u117_48 {d : Nat} {R : gR} {μ : gM} {L : List Value} {st : List Value} {x : Int32}  : gc_W (gc_S d) cX11_leastToWinRanked 11 0 R 48 L (.int x :: st) μ ↔ if x = 0 then gc_W (gc_S d) cX11_leastToWinRanked 11 0 R 57 L st μ else gc_W (gc_S d) cX11_leastToWinRanked 11 0 R 51 L st μ := us_ifeq dX11_leastToWinRanked_48 rfl
theorem u117_51 {d : Nat} {R : gR} {μ : gM} {l0 l1 l2 l3 : Value} {st : List Value} {x : Int32}  : gc_W (gc_S d) cX11_leastToWinRanked 11 0 R 51 [l0, l1, l2, l3, .int x] st μ ↔ gc_W (gc_S d) cX11_leastToWinRanked 11 0 R 53 [l0, l1, l2, l3, .int x] (.int x :: st) μ := us_iload dX11_leastToWinRanked_51 rfl
theorem u117_53 {d : Nat} {R : gR} {μ : gM} {l0 l1 l3 l4 : Value} {st : List Value} {x : Int32}  : gc_W (gc_S d) cX11_leastToWinRanked 11 0 R 53 [l0, l1, .int x, l3, l4] st μ ↔ gc_W (gc_S d) cX11_leastToWinRanked 11 0 R 54 [l0, l1, .int x, l3, l4] (.int x :: st) μ := us_iload_n dX11_leastToWinRanked_53 rfl
theorem u117_54 {d : Nat} {R : gR} {μ : gM} {L : List Value} {st : List Value} {x y : Int32}  : gc_W (gc_S d) cX11_leastToWinRanked 11 0 R 54 L (.int y :: .int x :: st) μ ↔ if y ≤ x then gc_W (gc_S d) cX11_leastToWinRanked 11 0 R 60 L st μ else gc_W (gc_S d) cX11_leastToWinRanked 11 0 R 57 L st μ := us_icge dX11_leastToWinRanked_54 rfl
theorem u117_57 {d : Nat} {R : gR} {μ : gM} {l0 l1 l2 l3 : Value} {st : List Value} {x : Int32}  : gc_W (gc_S d) cX11_leastToWinRanked 11 0 R 57 [l0, l1, l2, l3, .int x] st μ ↔ gc_W (gc_S d) cX11_leastToWinRanked 11 0 R 59 [l0, l1, l2, l3, .int x] (.int x :: st) μ := us_iload dX11_leastToWinRanked_57 rfl
theorem u117_59 {d : Nat} {R : gR} {μ : gM} {l0 l1 l2 l3 l4 : Value} {st : List Value} {x : Int32} (hs : gc_sk l2 = true) : gc_W (gc_S d) cX11_leastToWinRanked 11 0 R 59 [l0, l1, l2, l3, l4] (.int x :: st) μ ↔ gc_W (gc_S d) cX11_leastToWinRanked 11 0 R 60 [l0, l1, .int x, l3, l4] st μ := us_istore_n dX11_leastToWinRanked_59 rfl hs
theorem u117_60 {d : Nat} {R : gR} {μ : gM} {l0 l1 l2 l4 : Value} {st : List Value} {x : Int32}  : gc_W (gc_S d) cX11_leastToWinRanked 11 0 R 60 [l0, l1, l2, .int x, l4] st μ ↔ gc_W (gc_S d) cX11_leastToWinRanked 11 0 R 63 [l0, l1, l2, .int (x + 1), l4] st μ := us_iinc dX11_leastToWinRanked_60 rfl ci_iinc_1
theorem u117_63 {d : Nat} {R : gR} {μ : gM} {L : List Value} {st : List Value}  : gc_W (gc_S d) cX11_leastToWinRanked 11 0 R 63 L st μ ↔ gc_W (gc_S d) cX11_leastToWinRanked 11 0 R 4 L st μ := us_goto dX11_leastToWinRanked_63 rfl
theorem u117_66 {d : Nat} {R : gR} {μ : gM} {l0 l1 l3 l4 : Value} {st : List Value} {x : Int32}  : gc_W (gc_S d) cX11_leastToWinRanked 11 0 R 66 [l0, l1, .int x, l3, l4] st μ ↔ gc_W (gc_S d) cX11_leastToWinRanked 11 0 R 67 [l0, l1, .int x, l3, l4] (.int x :: st) μ := us_iload_n dX11_leastToWinRanked_66 rfl
theorem u117_67 {d : Nat} {R : gR} {μ : gM} {L : List Value} {v : Int32}  : gc_W (gc_S d) cX11_leastToWinRanked 11 0 R 67 L [.int v] μ ↔ R (some (.int v)) μ := us_iret dX11_leastToWinRanked_67 rfl
theorem s117 {d : Nat} {R : gR} {μ : gM} {o : Nat} {a0 : Int32} : gc_S (d + 1) 117 [.ref o, .int a0] μ R ↔ gc_W (gc_S d) cX11_leastToWinRanked 11 0 R 0 [.ref o, .int a0, .retAddr 0, .retAddr 0, .retAddr 0] [] μ := us_call (gm_117) rfl rfl
theorem dX11_unranked_0 : decode cX11_unranked 0 = .ok (.iconst 0, 1) := by decide +kernel
theorem dX11_unranked_1 : decode cX11_unranked 1 = .ok (.istore_n 2, 1) := by decide +kernel
theorem dX11_unranked_2 : decode cX11_unranked 2 = .ok (.iconst 0, 1) := by decide +kernel
theorem dX11_unranked_3 : decode cX11_unranked 3 = .ok (.istore_n 3, 1) := by decide +kernel
theorem dX11_unranked_4 : decode cX11_unranked 4 = .ok (.iload_n 3, 1) := by decide +kernel
theorem dX11_unranked_5 : decode cX11_unranked 5 = .ok (.bipush 16, 2) := by decide +kernel
theorem dX11_unranked_7 : decode cX11_unranked 7 = .ok (.if_icmp .ge 37, 3) := by decide +kernel
theorem dX11_unranked_10 : decode cX11_unranked 10 = .ok (.iload_n 1, 1) := by decide +kernel
theorem dX11_unranked_11 : decode cX11_unranked 11 = .ok (.iload_n 3, 1) := by decide +kernel
theorem dX11_unranked_12 : decode cX11_unranked 12 = .ok (.ishr, 1) := by decide +kernel
theorem dX11_unranked_13 : decode cX11_unranked 13 = .ok (.iconst 1, 1) := by decide +kernel
theorem dX11_unranked_14 : decode cX11_unranked 14 = .ok (.iand, 1) := by decide +kernel
theorem dX11_unranked_15 : decode cX11_unranked 15 = .ok (.iconst 1, 1) := by decide +kernel
theorem dX11_unranked_16 : decode cX11_unranked 16 = .ok (.if_icmp .ne 22, 3) := by decide +kernel
theorem dX11_unranked_19 : decode cX11_unranked 19 = .ok (.iload_n 0, 1) := by decide +kernel
theorem dX11_unranked_20 : decode cX11_unranked 20 = .ok (.iload_n 3, 1) := by decide +kernel
theorem dX11_unranked_21 : decode cX11_unranked 21 = .ok (.iload_n 1, 1) := by decide +kernel
theorem dX11_unranked_22 : decode cX11_unranked 22 = .ok (.invokestatic 333, 3) := by decide +kernel
theorem dX11_unranked_25 : decode cX11_unranked 25 = .ok (.ishr, 1) := by decide +kernel
theorem dX11_unranked_26 : decode cX11_unranked 26 = .ok (.iconst 1, 1) := by decide +kernel
theorem dX11_unranked_27 : decode cX11_unranked 27 = .ok (.iand, 1) := by decide +kernel
theorem dX11_unranked_28 : decode cX11_unranked 28 = .ok (.iconst 1, 1) := by decide +kernel
theorem dX11_unranked_29 : decode cX11_unranked 29 = .ok (.if_icmp .ne 9, 3) := by decide +kernel
theorem dX11_unranked_32 : decode cX11_unranked 32 = .ok (.iload_n 2, 1) := by decide +kernel
theorem dX11_unranked_33 : decode cX11_unranked 33 = .ok (.iconst 1, 1) := by decide +kernel
theorem dX11_unranked_34 : decode cX11_unranked 34 = .ok (.iload_n 3, 1) := by decide +kernel
theorem dX11_unranked_35 : decode cX11_unranked 35 = .ok (.ishl, 1) := by decide +kernel
theorem dX11_unranked_36 : decode cX11_unranked 36 = .ok (.ior, 1) := by decide +kernel
theorem dX11_unranked_37 : decode cX11_unranked 37 = .ok (.istore_n 2, 1) := by decide +kernel
theorem dX11_unranked_38 : decode cX11_unranked 38 = .ok (.iinc 3 1, 3) := by decide +kernel
theorem dX11_unranked_41 : decode cX11_unranked 41 = .ok (.goto (-37), 3) := by decide +kernel
theorem dX11_unranked_44 : decode cX11_unranked 44 = .ok (.iload_n 2, 1) := by decide +kernel
theorem dX11_unranked_45 : decode cX11_unranked 45 = .ok (.ireturn, 1) := by decide +kernel
theorem u118_0 {d : Nat} {R : gR} {μ : gM} {L : List Value} {st : List Value}   : gc_W (gc_S d) cX11_unranked 11 0 R 0 L st μ ↔ gc_W (gc_S d) cX11_unranked 11 0 R 1 L (.int 0 :: st) μ := us_iconst dX11_unranked_0 ci_iconst_0
theorem u118_1 {d : Nat} {R : gR} {μ : gM} {l0 l1 l2 l3 : Value} {st : List Value} {x : Int32} (hs : gc_sk l2 = true) : gc_W (gc_S d) cX11_unranked 11 0 R 1 [l0, l1, l2, l3] (.int x :: st) μ ↔ gc_W (gc_S d) cX11_unranked 11 0 R 2 [l0, l1, .int x, l3] st μ := us_istore_n dX11_unranked_1 rfl hs
theorem u118_2 {d : Nat} {R : gR} {μ : gM} {L : List Value} {st : List Value}   : gc_W (gc_S d) cX11_unranked 11 0 R 2 L st μ ↔ gc_W (gc_S d) cX11_unranked 11 0 R 3 L (.int 0 :: st) μ := us_iconst dX11_unranked_2 ci_iconst_0
theorem u118_3 {d : Nat} {R : gR} {μ : gM} {l0 l1 l2 l3 : Value} {st : List Value} {x : Int32} (hs : gc_sk l3 = true) : gc_W (gc_S d) cX11_unranked 11 0 R 3 [l0, l1, l2, l3] (.int x :: st) μ ↔ gc_W (gc_S d) cX11_unranked 11 0 R 4 [l0, l1, l2, .int x] st μ := us_istore_n dX11_unranked_3 rfl hs
theorem u118_4 {d : Nat} {R : gR} {μ : gM} {l0 l1 l2 : Value} {st : List Value} {x : Int32}  : gc_W (gc_S d) cX11_unranked 11 0 R 4 [l0, l1, l2, .int x] st μ ↔ gc_W (gc_S d) cX11_unranked 11 0 R 5 [l0, l1, l2, .int x] (.int x :: st) μ := us_iload_n dX11_unranked_4 rfl
theorem u118_5 {d : Nat} {R : gR} {μ : gM} {L : List Value} {st : List Value}   : gc_W (gc_S d) cX11_unranked 11 0 R 5 L st μ ↔ gc_W (gc_S d) cX11_unranked 11 0 R 7 L (.int 16 :: st) μ := us_bipush dX11_unranked_5 ci_bipush_16
theorem u118_7 {d : Nat} {R : gR} {μ : gM} {L : List Value} {st : List Value} {x y : Int32}  : gc_W (gc_S d) cX11_unranked 11 0 R 7 L (.int y :: .int x :: st) μ ↔ if y ≤ x then gc_W (gc_S d) cX11_unranked 11 0 R 44 L st μ else gc_W (gc_S d) cX11_unranked 11 0 R 10 L st μ := us_icge dX11_unranked_7 rfl
theorem u118_10 {d : Nat} {R : gR} {μ : gM} {l0 l2 l3 : Value} {st : List Value} {x : Int32}  : gc_W (gc_S d) cX11_unranked 11 0 R 10 [l0, .int x, l2, l3] st μ ↔ gc_W (gc_S d) cX11_unranked 11 0 R 11 [l0, .int x, l2, l3] (.int x :: st) μ := us_iload_n dX11_unranked_10 rfl
theorem u118_11 {d : Nat} {R : gR} {μ : gM} {l0 l1 l2 : Value} {st : List Value} {x : Int32}  : gc_W (gc_S d) cX11_unranked 11 0 R 11 [l0, l1, l2, .int x] st μ ↔ gc_W (gc_S d) cX11_unranked 11 0 R 12 [l0, l1, l2, .int x] (.int x :: st) μ := us_iload_n dX11_unranked_11 rfl
theorem u118_12 {d : Nat} {R : gR} {μ : gM} {L : List Value} {st : List Value} {x y : Int32}  : gc_W (gc_S d) cX11_unranked 11 0 R 12 L (.int y :: .int x :: st) μ ↔ gc_W (gc_S d) cX11_unranked 11 0 R 13 L (.int (x >>> (y &&& 31)) :: st) μ := us_ishr dX11_unranked_12
theorem u118_13 {d : Nat} {R : gR} {μ : gM} {L : List Value} {st : List Value}   : gc_W (gc_S d) cX11_unranked 11 0 R 13 L st μ ↔ gc_W (gc_S d) cX11_unranked 11 0 R 14 L (.int 1 :: st) μ := us_iconst dX11_unranked_13 ci_iconst_1
theorem u118_14 {d : Nat} {R : gR} {μ : gM} {L : List Value} {st : List Value} {x y : Int32}  : gc_W (gc_S d) cX11_unranked 11 0 R 14 L (.int y :: .int x :: st) μ ↔ gc_W (gc_S d) cX11_unranked 11 0 R 15 L (.int (x &&& y) :: st) μ := us_iand dX11_unranked_14
theorem u118_15 {d : Nat} {R : gR} {μ : gM} {L : List Value} {st : List Value}   : gc_W (gc_S d) cX11_unranked 11 0 R 15 L st μ ↔ gc_W (gc_S d) cX11_unranked 11 0 R 16 L (.int 1 :: st) μ := us_iconst dX11_unranked_15 ci_iconst_1
theorem u118_16 {d : Nat} {R : gR} {μ : gM} {L : List Value} {st : List Value} {x y : Int32}  : gc_W (gc_S d) cX11_unranked 11 0 R 16 L (.int y :: .int x :: st) μ ↔ if x = y then gc_W (gc_S d) cX11_unranked 11 0 R 19 L st μ else gc_W (gc_S d) cX11_unranked 11 0 R 38 L st μ := us_icne dX11_unranked_16 rfl
theorem u118_19 {d : Nat} {R : gR} {μ : gM} {l1 l2 l3 : Value} {st : List Value} {x : Int32}  : gc_W (gc_S d) cX11_unranked 11 0 R 19 [.int x, l1, l2, l3] st μ ↔ gc_W (gc_S d) cX11_unranked 11 0 R 20 [.int x, l1, l2, l3] (.int x :: st) μ := us_iload_n dX11_unranked_19 rfl
theorem u118_20 {d : Nat} {R : gR} {μ : gM} {l0 l1 l2 : Value} {st : List Value} {x : Int32}  : gc_W (gc_S d) cX11_unranked 11 0 R 20 [l0, l1, l2, .int x] st μ ↔ gc_W (gc_S d) cX11_unranked 11 0 R 21 [l0, l1, l2, .int x] (.int x :: st) μ := us_iload_n dX11_unranked_20 rfl
theorem u118_21 {d : Nat} {R : gR} {μ : gM} {l0 l2 l3 : Value} {st : List Value} {x : Int32}  : gc_W (gc_S d) cX11_unranked 11 0 R 21 [l0, .int x, l2, l3] st μ ↔ gc_W (gc_S d) cX11_unranked 11 0 R 22 [l0, .int x, l2, l3] (.int x :: st) μ := us_iload_n dX11_unranked_21 rfl
theorem u118_22 {d : Nat} {R : gR} {μ : gM} {L : List Value}  {a0 a1 : Int32} {s0 : Value}  : gc_W (gc_S d) cX11_unranked 11 0 R 22 L [.int a1, .int a0, s0] μ ↔ gc_S d 115 [.int a0, .int a1] μ (fun v μ' => gc_W (gc_S d) cX11_unranked 11 0 R 25 L (v.toList ++ [s0]) μ') := us_stat dX11_unranked_22 gs_11_333 gne_11_333 gn_11_333 gc_11_333_97 rfl rfl rfl rfl
theorem u118_25 {d : Nat} {R : gR} {μ : gM} {L : List Value} {st : List Value} {x y : Int32}  : gc_W (gc_S d) cX11_unranked 11 0 R 25 L (.int y :: .int x :: st) μ ↔ gc_W (gc_S d) cX11_unranked 11 0 R 26 L (.int (x >>> (y &&& 31)) :: st) μ := us_ishr dX11_unranked_25
theorem u118_26 {d : Nat} {R : gR} {μ : gM} {L : List Value} {st : List Value}   : gc_W (gc_S d) cX11_unranked 11 0 R 26 L st μ ↔ gc_W (gc_S d) cX11_unranked 11 0 R 27 L (.int 1 :: st) μ := us_iconst dX11_unranked_26 ci_iconst_1
theorem u118_27 {d : Nat} {R : gR} {μ : gM} {L : List Value} {st : List Value} {x y : Int32}  : gc_W (gc_S d) cX11_unranked 11 0 R 27 L (.int y :: .int x :: st) μ ↔ gc_W (gc_S d) cX11_unranked 11 0 R 28 L (.int (x &&& y) :: st) μ := us_iand dX11_unranked_27
theorem u118_28 {d : Nat} {R : gR} {μ : gM} {L : List Value} {st : List Value}   : gc_W (gc_S d) cX11_unranked 11 0 R 28 L st μ ↔ gc_W (gc_S d) cX11_unranked 11 0 R 29 L (.int 1 :: st) μ := us_iconst dX11_unranked_28 ci_iconst_1
theorem u118_29 {d : Nat} {R : gR} {μ : gM} {L : List Value} {st : List Value} {x y : Int32}  : gc_W (gc_S d) cX11_unranked 11 0 R 29 L (.int y :: .int x :: st) μ ↔ if x = y then gc_W (gc_S d) cX11_unranked 11 0 R 32 L st μ else gc_W (gc_S d) cX11_unranked 11 0 R 38 L st μ := us_icne dX11_unranked_29 rfl
theorem u118_32 {d : Nat} {R : gR} {μ : gM} {l0 l1 l3 : Value} {st : List Value} {x : Int32}  : gc_W (gc_S d) cX11_unranked 11 0 R 32 [l0, l1, .int x, l3] st μ ↔ gc_W (gc_S d) cX11_unranked 11 0 R 33 [l0, l1, .int x, l3] (.int x :: st) μ := us_iload_n dX11_unranked_32 rfl
theorem u118_33 {d : Nat} {R : gR} {μ : gM} {L : List Value} {st : List Value}   : gc_W (gc_S d) cX11_unranked 11 0 R 33 L st μ ↔ gc_W (gc_S d) cX11_unranked 11 0 R 34 L (.int 1 :: st) μ := us_iconst dX11_unranked_33 ci_iconst_1
theorem u118_34 {d : Nat} {R : gR} {μ : gM} {l0 l1 l2 : Value} {st : List Value} {x : Int32}  : gc_W (gc_S d) cX11_unranked 11 0 R 34 [l0, l1, l2, .int x] st μ ↔ gc_W (gc_S d) cX11_unranked 11 0 R 35 [l0, l1, l2, .int x] (.int x :: st) μ := us_iload_n dX11_unranked_34 rfl
theorem u118_35 {d : Nat} {R : gR} {μ : gM} {L : List Value} {st : List Value} {x y : Int32}  : gc_W (gc_S d) cX11_unranked 11 0 R 35 L (.int y :: .int x :: st) μ ↔ gc_W (gc_S d) cX11_unranked 11 0 R 36 L (.int (x <<< (y &&& 31)) :: st) μ := us_ishl dX11_unranked_35
theorem u118_36 {d : Nat} {R : gR} {μ : gM} {L : List Value} {st : List Value} {x y : Int32}  : gc_W (gc_S d) cX11_unranked 11 0 R 36 L (.int y :: .int x :: st) μ ↔ gc_W (gc_S d) cX11_unranked 11 0 R 37 L (.int (x ||| y) :: st) μ := us_ior dX11_unranked_36
theorem u118_37 {d : Nat} {R : gR} {μ : gM} {l0 l1 l2 l3 : Value} {st : List Value} {x : Int32} (hs : gc_sk l2 = true) : gc_W (gc_S d) cX11_unranked 11 0 R 37 [l0, l1, l2, l3] (.int x :: st) μ ↔ gc_W (gc_S d) cX11_unranked 11 0 R 38 [l0, l1, .int x, l3] st μ := us_istore_n dX11_unranked_37 rfl hs
theorem u118_38 {d : Nat} {R : gR} {μ : gM} {l0 l1 l2 : Value} {st : List Value} {x : Int32}  : gc_W (gc_S d) cX11_unranked 11 0 R 38 [l0, l1, l2, .int x] st μ ↔ gc_W (gc_S d) cX11_unranked 11 0 R 41 [l0, l1, l2, .int (x + 1)] st μ := us_iinc dX11_unranked_38 rfl ci_iinc_1
theorem u118_41 {d : Nat} {R : gR} {μ : gM} {L : List Value} {st : List Value}  : gc_W (gc_S d) cX11_unranked 11 0 R 41 L st μ ↔ gc_W (gc_S d) cX11_unranked 11 0 R 4 L st μ := us_goto dX11_unranked_41 rfl
theorem u118_44 {d : Nat} {R : gR} {μ : gM} {l0 l1 l3 : Value} {st : List Value} {x : Int32}  : gc_W (gc_S d) cX11_unranked 11 0 R 44 [l0, l1, .int x, l3] st μ ↔ gc_W (gc_S d) cX11_unranked 11 0 R 45 [l0, l1, .int x, l3] (.int x :: st) μ := us_iload_n dX11_unranked_44 rfl
theorem u118_45 {d : Nat} {R : gR} {μ : gM} {L : List Value} {v : Int32}  : gc_W (gc_S d) cX11_unranked 11 0 R 45 L [.int v] μ ↔ R (some (.int v)) μ := us_iret dX11_unranked_45 rfl
theorem s118 {d : Nat} {R : gR} {μ : gM} {a0 a1 : Int32} : gc_S (d + 1) 118 [.int a0, .int a1] μ R ↔ gc_W (gc_S d) cX11_unranked 11 0 R 0 [.int a0, .int a1, .retAddr 0, .retAddr 0] [] μ := us_call (gm_118) rfl rfl
theorem dX11_leastToWin_0 : decode cX11_leastToWin 0 = .ok (.aload_n 0, 1) := by decide +kernel
theorem dX11_leastToWin_1 : decode cX11_leastToWin 1 = .ok (.iload_n 1, 1) := by decide +kernel
theorem dX11_leastToWin_2 : decode cX11_leastToWin 2 = .ok (.invokevirtual 324, 3) := by decide +kernel
theorem dX11_leastToWin_5 : decode cX11_leastToWin 5 = .ok (.iconst 1, 1) := by decide +kernel
theorem dX11_leastToWin_6 : decode cX11_leastToWin 6 = .ok (.iload_n 1, 1) := by decide +kernel
theorem dX11_leastToWin_7 : decode cX11_leastToWin 7 = .ok (.invokestatic 109, 3) := by decide +kernel
theorem dX11_leastToWin_10 : decode cX11_leastToWin 10 = .ok (.ishl, 1) := by decide +kernel
theorem dX11_leastToWin_11 : decode cX11_leastToWin 11 = .ok (.iconst 1, 1) := by decide +kernel
theorem dX11_leastToWin_12 : decode cX11_leastToWin 12 = .ok (.isub, 1) := by decide +kernel
theorem dX11_leastToWin_13 : decode cX11_leastToWin 13 = .ok (.istore_n 2, 1) := by decide +kernel
theorem dX11_leastToWin_14 : decode cX11_leastToWin 14 = .ok (.iconst 0, 1) := by decide +kernel
theorem dX11_leastToWin_15 : decode cX11_leastToWin 15 = .ok (.istore_n 3, 1) := by decide +kernel
theorem dX11_leastToWin_16 : decode cX11_leastToWin 16 = .ok (.iconst 0, 1) := by decide +kernel
theorem dX11_leastToWin_17 : decode cX11_leastToWin 17 = .ok (.istore 4, 2) := by decide +kernel
theorem dX11_leastToWin_19 : decode cX11_leastToWin 19 = .ok (.iload 4, 2) := by decide +kernel
theorem dX11_leastToWin_21 : decode cX11_leastToWin 21 = .ok (.iload_n 2, 1) := by decide +kernel
theorem dX11_leastToWin_22 : decode cX11_leastToWin 22 = .ok (.if_icmp .gt 32, 3) := by decide +kernel
theorem dX11_leastToWin_25 : decode cX11_leastToWin 25 = .ok (.aload_n 0, 1) := by decide +kernel
theorem dX11_leastToWin_26 : decode cX11_leastToWin 26 = .ok (.iload 4, 2) := by decide +kernel
theorem dX11_leastToWin_28 : decode cX11_leastToWin 28 = .ok (.invokevirtual 327, 3) := by decide +kernel
theorem dX11_leastToWin_31 : decode cX11_leastToWin 31 = .ok (.istore_n 3, 1) := by decide +kernel
theorem dX11_leastToWin_32 : decode cX11_leastToWin 32 = .ok (.aload_n 0, 1) := by decide +kernel
theorem dX11_leastToWin_33 : decode cX11_leastToWin 33 = .ok (.getfield 76, 3) := by decide +kernel
theorem dX11_leastToWin_36 : decode cX11_leastToWin 36 = .ok (.iload 4, 2) := by decide +kernel
theorem dX11_leastToWin_38 : decode cX11_leastToWin 38 = .ok (.iload_n 3, 1) := by decide +kernel
theorem dX11_leastToWin_39 : decode cX11_leastToWin 39 = .ok (.ifCond .eq 7, 3) := by decide +kernel
theorem dX11_leastToWin_42 : decode cX11_leastToWin 42 = .ok (.iconst 1, 1) := by decide +kernel
theorem dX11_leastToWin_43 : decode cX11_leastToWin 43 = .ok (.goto 4, 3) := by decide +kernel
theorem dX11_leastToWin_46 : decode cX11_leastToWin 46 = .ok (.iconst 0, 1) := by decide +kernel
theorem dX11_leastToWin_47 : decode cX11_leastToWin 47 = .ok (.bastore, 1) := by decide +kernel
theorem dX11_leastToWin_48 : decode cX11_leastToWin 48 = .ok (.iinc 4 1, 3) := by decide +kernel
theorem dX11_leastToWin_51 : decode cX11_leastToWin 51 = .ok (.goto (-32), 3) := by decide +kernel
theorem dX11_leastToWin_54 : decode cX11_leastToWin 54 = .ok (.iload_n 3, 1) := by decide +kernel
theorem dX11_leastToWin_55 : decode cX11_leastToWin 55 = .ok (.iload_n 1, 1) := by decide +kernel
theorem dX11_leastToWin_56 : decode cX11_leastToWin 56 = .ok (.invokestatic 330, 3) := by decide +kernel
theorem dX11_leastToWin_59 : decode cX11_leastToWin 59 = .ok (.ireturn, 1) := by decide +kernel
theorem u119_0 {d : Nat} {R : gR} {μ : gM} {l1 l2 l3 l4 : Value} {st : List Value} {x : Nat}  : gc_W (gc_S d) cX11_leastToWin 11 0 R 0 [.ref x, l1, l2, l3, l4] st μ ↔ gc_W (gc_S d) cX11_leastToWin 11 0 R 1 [.ref x, l1, l2, l3, l4] (.ref x :: st) μ := us_aload_n dX11_leastToWin_0 rfl
theorem u119_1 {d : Nat} {R : gR} {μ : gM} {l0 l2 l3 l4 : Value} {st : List Value} {x : Int32}  : gc_W (gc_S d) cX11_leastToWin 11 0 R 1 [l0, .int x, l2, l3, l4] st μ ↔ gc_W (gc_S d) cX11_leastToWin 11 0 R 2 [l0, .int x, l2, l3, l4] (.int x :: st) μ := us_iload_n dX11_leastToWin_1 rfl
theorem u119_2 {d : Nat} {R : gR} {μ : gM} {L : List Value} {o : Nat} {a0 : Int32} (hk : gc_kd o = 11) : gc_W (gc_S d) cX11_leastToWin 11 0 R 2 L [.int a0, .ref o] μ ↔ gc_S d 116 [.ref o, .int a0] μ (fun v μ' => gc_W (gc_S d) cX11_leastToWin 11 0 R 5 L (v.toList ++ []) μ') := us_virt dX11_leastToWin_2 gn_11_324 gc_11_324_11 hk rfl rfl rfl rfl rfl
theorem u119_5 {d : Nat} {R : gR} {μ : gM} {L : List Value} {st : List Value}   : gc_W (gc_S d) cX11_leastToWin 11 0 R 5 L st μ ↔ gc_W (gc_S d) cX11_leastToWin 11 0 R 6 L (.int 1 :: st) μ := us_iconst dX11_leastToWin_5 ci_iconst_1
theorem u119_6 {d : Nat} {R : gR} {μ : gM} {l0 l2 l3 l4 : Value} {st : List Value} {x : Int32}  : gc_W (gc_S d) cX11_leastToWin 11 0 R 6 [l0, .int x, l2, l3, l4] st μ ↔ gc_W (gc_S d) cX11_leastToWin 11 0 R 7 [l0, .int x, l2, l3, l4] (.int x :: st) μ := us_iload_n dX11_leastToWin_6 rfl
theorem u119_7 {d : Nat} {R : gR} {μ : gM} {L : List Value}  {a0 : Int32} {s0 : Value}  : gc_W (gc_S d) cX11_leastToWin 11 0 R 7 L [.int a0, s0] μ ↔ gc_S d 30 [.int a0] μ (fun v μ' => gc_W (gc_S d) cX11_leastToWin 11 0 R 10 L (v.toList ++ [s0]) μ') := us_stat dX11_leastToWin_7 gs_11_109 gne_11_109 gn_11_109 gc_11_109_97 rfl rfl rfl rfl
theorem u119_10 {d : Nat} {R : gR} {μ : gM} {L : List Value} {st : List Value} {x y : Int32}  : gc_W (gc_S d) cX11_leastToWin 11 0 R 10 L (.int y :: .int x :: st) μ ↔ gc_W (gc_S d) cX11_leastToWin 11 0 R 11 L (.int (x <<< (y &&& 31)) :: st) μ := us_ishl dX11_leastToWin_10
theorem u119_11 {d : Nat} {R : gR} {μ : gM} {L : List Value} {st : List Value}   : gc_W (gc_S d) cX11_leastToWin 11 0 R 11 L st μ ↔ gc_W (gc_S d) cX11_leastToWin 11 0 R 12 L (.int 1 :: st) μ := us_iconst dX11_leastToWin_11 ci_iconst_1
theorem u119_12 {d : Nat} {R : gR} {μ : gM} {L : List Value} {st : List Value} {x y : Int32}  : gc_W (gc_S d) cX11_leastToWin 11 0 R 12 L (.int y :: .int x :: st) μ ↔ gc_W (gc_S d) cX11_leastToWin 11 0 R 13 L (.int (x - y) :: st) μ := us_isub dX11_leastToWin_12
theorem u119_13 {d : Nat} {R : gR} {μ : gM} {l0 l1 l2 l3 l4 : Value} {st : List Value} {x : Int32} (hs : gc_sk l2 = true) : gc_W (gc_S d) cX11_leastToWin 11 0 R 13 [l0, l1, l2, l3, l4] (.int x :: st) μ ↔ gc_W (gc_S d) cX11_leastToWin 11 0 R 14 [l0, l1, .int x, l3, l4] st μ := us_istore_n dX11_leastToWin_13 rfl hs
theorem u119_14 {d : Nat} {R : gR} {μ : gM} {L : List Value} {st : List Value}   : gc_W (gc_S d) cX11_leastToWin 11 0 R 14 L st μ ↔ gc_W (gc_S d) cX11_leastToWin 11 0 R 15 L (.int 0 :: st) μ := us_iconst dX11_leastToWin_14 ci_iconst_0
theorem u119_15 {d : Nat} {R : gR} {μ : gM} {l0 l1 l2 l3 l4 : Value} {st : List Value} {x : Int32} (hs : gc_sk l3 = true) : gc_W (gc_S d) cX11_leastToWin 11 0 R 15 [l0, l1, l2, l3, l4] (.int x :: st) μ ↔ gc_W (gc_S d) cX11_leastToWin 11 0 R 16 [l0, l1, l2, .int x, l4] st μ := us_istore_n dX11_leastToWin_15 rfl hs
theorem u119_16 {d : Nat} {R : gR} {μ : gM} {L : List Value} {st : List Value}   : gc_W (gc_S d) cX11_leastToWin 11 0 R 16 L st μ ↔ gc_W (gc_S d) cX11_leastToWin 11 0 R 17 L (.int 0 :: st) μ := us_iconst dX11_leastToWin_16 ci_iconst_0
theorem u119_17 {d : Nat} {R : gR} {μ : gM} {l0 l1 l2 l3 l4 : Value} {st : List Value} {x : Int32} (hs : gc_sk l4 = true) : gc_W (gc_S d) cX11_leastToWin 11 0 R 17 [l0, l1, l2, l3, l4] (.int x :: st) μ ↔ gc_W (gc_S d) cX11_leastToWin 11 0 R 19 [l0, l1, l2, l3, .int x] st μ := us_istore dX11_leastToWin_17 rfl hs
theorem u119_19 {d : Nat} {R : gR} {μ : gM} {l0 l1 l2 l3 : Value} {st : List Value} {x : Int32}  : gc_W (gc_S d) cX11_leastToWin 11 0 R 19 [l0, l1, l2, l3, .int x] st μ ↔ gc_W (gc_S d) cX11_leastToWin 11 0 R 21 [l0, l1, l2, l3, .int x] (.int x :: st) μ := us_iload dX11_leastToWin_19 rfl
theorem u119_21 {d : Nat} {R : gR} {μ : gM} {l0 l1 l3 l4 : Value} {st : List Value} {x : Int32}  : gc_W (gc_S d) cX11_leastToWin 11 0 R 21 [l0, l1, .int x, l3, l4] st μ ↔ gc_W (gc_S d) cX11_leastToWin 11 0 R 22 [l0, l1, .int x, l3, l4] (.int x :: st) μ := us_iload_n dX11_leastToWin_21 rfl
theorem u119_22 {d : Nat} {R : gR} {μ : gM} {L : List Value} {st : List Value} {x y : Int32}  : gc_W (gc_S d) cX11_leastToWin 11 0 R 22 L (.int y :: .int x :: st) μ ↔ if y < x then gc_W (gc_S d) cX11_leastToWin 11 0 R 54 L st μ else gc_W (gc_S d) cX11_leastToWin 11 0 R 25 L st μ := us_icgt dX11_leastToWin_22 rfl
theorem u119_25 {d : Nat} {R : gR} {μ : gM} {l1 l2 l3 l4 : Value} {st : List Value} {x : Nat}  : gc_W (gc_S d) cX11_leastToWin 11 0 R 25 [.ref x, l1, l2, l3, l4] st μ ↔ gc_W (gc_S d) cX11_leastToWin 11 0 R 26 [.ref x, l1, l2, l3, l4] (.ref x :: st) μ := us_aload_n dX11_leastToWin_25 rfl
theorem u119_26 {d : Nat} {R : gR} {μ : gM} {l0 l1 l2 l3 : Value} {st : List Value} {x : Int32}  : gc_W (gc_S d) cX11_leastToWin 11 0 R 26 [l0, l1, l2, l3, .int x] st μ ↔ gc_W (gc_S d) cX11_leastToWin 11 0 R 28 [l0, l1, l2, l3, .int x] (.int x :: st) μ := us_iload dX11_leastToWin_26 rfl
theorem u119_28 {d : Nat} {R : gR} {μ : gM} {L : List Value} {o : Nat} {a0 : Int32} (hk : gc_kd o = 11) : gc_W (gc_S d) cX11_leastToWin 11 0 R 28 L [.int a0, .ref o] μ ↔ gc_S d 117 [.ref o, .int a0] μ (fun v μ' => gc_W (gc_S d) cX11_leastToWin 11 0 R 31 L (v.toList ++ []) μ') := us_virt dX11_leastToWin_28 gn_11_327 gc_11_327_11 hk rfl rfl rfl rfl rfl
theorem u119_31 {d : Nat} {R : gR} {μ : gM} {l0 l1 l2 l3 l4 : Value} {st : List Value} {x : Int32} (hs : gc_sk l3 = true) : gc_W (gc_S d) cX11_leastToWin 11 0 R 31 [l0, l1, l2, l3, l4] (.int x :: st) μ ↔ gc_W (gc_S d) cX11_leastToWin 11 0 R 32 [l0, l1, l2, .int x, l4] st μ := us_istore_n dX11_leastToWin_31 rfl hs
theorem u119_32 {d : Nat} {R : gR} {μ : gM} {l1 l2 l3 l4 : Value} {st : List Value} {x : Nat}  : gc_W (gc_S d) cX11_leastToWin 11 0 R 32 [.ref x, l1, l2, l3, l4] st μ ↔ gc_W (gc_S d) cX11_leastToWin 11 0 R 33 [.ref x, l1, l2, l3, l4] (.ref x :: st) μ := us_aload_n dX11_leastToWin_32 rfl
theorem u119_33 {d : Nat} {R : gR} {μ : gM} {L : List Value} {st : List Value} {o : Nat} (hk : gc_kd o = 11) : gc_W (gc_S d) cX11_leastToWin 11 0 R 33 L (.ref o :: st) μ ↔ gc_W (gc_S d) cX11_leastToWin 11 0 R 36 L (gc_fv o 8 μ :: st) μ := us_getf dX11_leastToWin_33 gf_11_76 hk
theorem u119_36 {d : Nat} {R : gR} {μ : gM} {l0 l1 l2 l3 : Value} {st : List Value} {x : Int32}  : gc_W (gc_S d) cX11_leastToWin 11 0 R 36 [l0, l1, l2, l3, .int x] st μ ↔ gc_W (gc_S d) cX11_leastToWin 11 0 R 38 [l0, l1, l2, l3, .int x] (.int x :: st) μ := us_iload dX11_leastToWin_36 rfl
theorem u119_38 {d : Nat} {R : gR} {μ : gM} {l0 l1 l2 l4 : Value} {st : List Value} {x : Int32}  : gc_W (gc_S d) cX11_leastToWin 11 0 R 38 [l0, l1, l2, .int x, l4] st μ ↔ gc_W (gc_S d) cX11_leastToWin 11 0 R 39 [l0, l1, l2, .int x, l4] (.int x :: st) μ := us_iload_n dX11_leastToWin_38 rfl
theorem u119_39 {d : Nat} {R : gR} {μ : gM} {L : List Value} {st : List Value} {x : Int32}  : gc_W (gc_S d) cX11_leastToWin 11 0 R 39 L (.int x :: st) μ ↔ if x = 0 then gc_W (gc_S d) cX11_leastToWin 11 0 R 46 L st μ else gc_W (gc_S d) cX11_leastToWin 11 0 R 42 L st μ := us_ifeq dX11_leastToWin_39 rfl
theorem u119_42 {d : Nat} {R : gR} {μ : gM} {L : List Value} {st : List Value}   : gc_W (gc_S d) cX11_leastToWin 11 0 R 42 L st μ ↔ gc_W (gc_S d) cX11_leastToWin 11 0 R 43 L (.int 1 :: st) μ := us_iconst dX11_leastToWin_42 ci_iconst_1
theorem u119_43 {d : Nat} {R : gR} {μ : gM} {L : List Value} {st : List Value}  : gc_W (gc_S d) cX11_leastToWin 11 0 R 43 L st μ ↔ gc_W (gc_S d) cX11_leastToWin 11 0 R 47 L st μ := us_goto dX11_leastToWin_43 rfl
theorem u119_46 {d : Nat} {R : gR} {μ : gM} {L : List Value} {st : List Value}   : gc_W (gc_S d) cX11_leastToWin 11 0 R 46 L st μ ↔ gc_W (gc_S d) cX11_leastToWin 11 0 R 47 L (.int 0 :: st) μ := us_iconst dX11_leastToWin_46 ci_iconst_0
theorem u119_47 {d : Nat} {R : gR} {μ : gM} {L : List Value} {st : List Value} {o : Nat} {i x : Int32} (hk : gc_kd o = 21) : gc_W (gc_S d) cX11_leastToWin 11 0 R 47 L (.int x :: .int i :: .ref o :: st) μ ↔ (vp_in i (gc_al o) ∧ (x = 0 ∨ x = 1) ∧ gc_W (gc_S d) cX11_leastToWin 11 0 R 48 L st (gc_up μ o i.toNatClampNeg x)) := us_zast dX11_leastToWin_47 hk
theorem u119_48 {d : Nat} {R : gR} {μ : gM} {l0 l1 l2 l3 : Value} {st : List Value} {x : Int32}  : gc_W (gc_S d) cX11_leastToWin 11 0 R 48 [l0, l1, l2, l3, .int x] st μ ↔ gc_W (gc_S d) cX11_leastToWin 11 0 R 51 [l0, l1, l2, l3, .int (x + 1)] st μ := us_iinc dX11_leastToWin_48 rfl ci_iinc_1
theorem u119_51 {d : Nat} {R : gR} {μ : gM} {L : List Value} {st : List Value}  : gc_W (gc_S d) cX11_leastToWin 11 0 R 51 L st μ ↔ gc_W (gc_S d) cX11_leastToWin 11 0 R 19 L st μ := us_goto dX11_leastToWin_51 rfl
theorem u119_54 {d : Nat} {R : gR} {μ : gM} {l0 l1 l2 l4 : Value} {st : List Value} {x : Int32}  : gc_W (gc_S d) cX11_leastToWin 11 0 R 54 [l0, l1, l2, .int x, l4] st μ ↔ gc_W (gc_S d) cX11_leastToWin 11 0 R 55 [l0, l1, l2, .int x, l4] (.int x :: st) μ := us_iload_n dX11_leastToWin_54 rfl
theorem u119_55 {d : Nat} {R : gR} {μ : gM} {l0 l2 l3 l4 : Value} {st : List Value} {x : Int32}  : gc_W (gc_S d) cX11_leastToWin 11 0 R 55 [l0, .int x, l2, l3, l4] st μ ↔ gc_W (gc_S d) cX11_leastToWin 11 0 R 56 [l0, .int x, l2, l3, l4] (.int x :: st) μ := us_iload_n dX11_leastToWin_55 rfl
theorem u119_56 {d : Nat} {R : gR} {μ : gM} {L : List Value}  {a0 a1 : Int32}  : gc_W (gc_S d) cX11_leastToWin 11 0 R 56 L [.int a1, .int a0] μ ↔ gc_S d 118 [.int a0, .int a1] μ (fun v μ' => gc_W (gc_S d) cX11_leastToWin 11 0 R 59 L (v.toList ++ []) μ') := us_stat dX11_leastToWin_56 gs_11_330 gne_11_330 gn_11_330 gc_11_330_97 rfl rfl rfl rfl
theorem u119_59 {d : Nat} {R : gR} {μ : gM} {L : List Value} {v : Int32}  : gc_W (gc_S d) cX11_leastToWin 11 0 R 59 L [.int v] μ ↔ R (some (.int v)) μ := us_iret dX11_leastToWin_59 rfl
theorem s119 {d : Nat} {R : gR} {μ : gM} {o : Nat} {a0 : Int32} : gc_S (d + 1) 119 [.ref o, .int a0] μ R ↔ gc_W (gc_S d) cX11_leastToWin 11 0 R 0 [.ref o, .int a0, .retAddr 0, .retAddr 0, .retAddr 0] [] μ := us_call (gm_119) rfl rfl
theorem dX11_game_0 : decode cX11_game 0 = .ok (.iconst 1, 1) := by decide +kernel
theorem dX11_game_1 : decode cX11_game 1 = .ok (.iload_n 1, 1) := by decide +kernel
theorem dX11_game_2 : decode cX11_game 2 = .ok (.invokestatic 84, 3) := by decide +kernel
theorem dX11_game_5 : decode cX11_game 5 = .ok (.ifCond .ne 9, 3) := by decide +kernel
theorem dX11_game_8 : decode cX11_game 8 = .ok (.aload_n 0, 1) := by decide +kernel
theorem dX11_game_9 : decode cX11_game 9 = .ok (.iconst 1, 1) := by decide +kernel
theorem dX11_game_10 : decode cX11_game 10 = .ok (.invokevirtual 88, 3) := by decide +kernel
theorem dX11_game_13 : decode cX11_game 13 = .ok (.ireturn, 1) := by decide +kernel
theorem dX11_game_14 : decode cX11_game 14 = .ok (.aload_n 0, 1) := by decide +kernel
theorem dX11_game_15 : decode cX11_game 15 = .ok (.getfield 38, 3) := by decide +kernel
theorem dX11_game_18 : decode cX11_game 18 = .ok (.invokevirtual 204, 3) := by decide +kernel
theorem dX11_game_21 : decode cX11_game 21 = .ok (.istore_n 2, 1) := by decide +kernel
theorem dX11_game_22 : decode cX11_game 22 = .ok (.iload_n 2, 1) := by decide +kernel
theorem dX11_game_23 : decode cX11_game 23 = .ok (.invokestatic 109, 3) := by decide +kernel
theorem dX11_game_26 : decode cX11_game 26 = .ok (.bipush 10, 2) := by decide +kernel
theorem dX11_game_28 : decode cX11_game 28 = .ok (.if_icmp .le 9, 3) := by decide +kernel
theorem dX11_game_31 : decode cX11_game 31 = .ok (.aload_n 0, 1) := by decide +kernel
theorem dX11_game_32 : decode cX11_game 32 = .ok (.iconst 3, 1) := by decide +kernel
theorem dX11_game_33 : decode cX11_game 33 = .ok (.invokevirtual 88, 3) := by decide +kernel
theorem dX11_game_36 : decode cX11_game 36 = .ok (.ireturn, 1) := by decide +kernel
theorem dX11_game_37 : decode cX11_game 37 = .ok (.aload_n 0, 1) := by decide +kernel
theorem dX11_game_38 : decode cX11_game 38 = .ok (.iload_n 2, 1) := by decide +kernel
theorem dX11_game_39 : decode cX11_game 39 = .ok (.invokevirtual 229, 3) := by decide +kernel
theorem dX11_game_42 : decode cX11_game 42 = .ok (.istore_n 3, 1) := by decide +kernel
theorem dX11_game_43 : decode cX11_game 43 = .ok (.iload_n 1, 1) := by decide +kernel
theorem dX11_game_44 : decode cX11_game 44 = .ok (.ifCond .ne 13, 3) := by decide +kernel
theorem dX11_game_47 : decode cX11_game 47 = .ok (.iload_n 3, 1) := by decide +kernel
theorem dX11_game_48 : decode cX11_game 48 = .ok (.ifCond .ne 7, 3) := by decide +kernel
theorem dX11_game_51 : decode cX11_game 51 = .ok (.iconst 0, 1) := by decide +kernel
theorem dX11_game_52 : decode cX11_game 52 = .ok (.goto 4, 3) := by decide +kernel
theorem dX11_game_55 : decode cX11_game 55 = .ok (.iconst 1, 1) := by decide +kernel
theorem dX11_game_56 : decode cX11_game 56 = .ok (.ireturn, 1) := by decide +kernel
theorem dX11_game_57 : decode cX11_game 57 = .ok (.iload_n 3, 1) := by decide +kernel
theorem dX11_game_58 : decode cX11_game 58 = .ok (.ifCond .ne 11, 3) := by decide +kernel
theorem dX11_game_61 : decode cX11_game 61 = .ok (.aload_n 0, 1) := by decide +kernel
theorem dX11_game_62 : decode cX11_game 62 = .ok (.iconst 2, 1) := by decide +kernel
theorem dX11_game_63 : decode cX11_game 63 = .ok (.invokevirtual 88, 3) := by decide +kernel
theorem dX11_game_66 : decode cX11_game 66 = .ok (.goto 4, 3) := by decide +kernel
theorem dX11_game_69 : decode cX11_game 69 = .ok (.iload_n 3, 1) := by decide +kernel
theorem dX11_game_70 : decode cX11_game 70 = .ok (.ireturn, 1) := by decide +kernel
theorem u120_0 {d : Nat} {R : gR} {μ : gM} {L : List Value} {st : List Value}   : gc_W (gc_S d) cX11_game 11 0 R 0 L st μ ↔ gc_W (gc_S d) cX11_game 11 0 R 1 L (.int 1 :: st) μ := us_iconst dX11_game_0 ci_iconst_1
theorem u120_1 {d : Nat} {R : gR} {μ : gM} {l0 l2 l3 : Value} {st : List Value} {x : Int32}  : gc_W (gc_S d) cX11_game 11 0 R 1 [l0, .int x, l2, l3] st μ ↔ gc_W (gc_S d) cX11_game 11 0 R 2 [l0, .int x, l2, l3] (.int x :: st) μ := us_iload_n dX11_game_1 rfl
theorem u120_2 {d : Nat} {R : gR} {μ : gM} {L : List Value}  {a0 a1 : Int32}  : gc_W (gc_S d) cX11_game 11 0 R 2 L [.int a1, .int a0] μ ↔ gc_S d 73 [.int a0, .int a1] μ (fun v μ' => gc_W (gc_S d) cX11_game 11 0 R 5 L (v.toList ++ []) μ') := us_stat dX11_game_2 gs_11_84 gne_11_84 gn_11_84 gc_11_84_97 rfl rfl rfl rfl
theorem u120_5 {d : Nat} {R : gR} {μ : gM} {L : List Value} {st : List Value} {x : Int32}  : gc_W (gc_S d) cX11_game 11 0 R 5 L (.int x :: st) μ ↔ if x = 0 then gc_W (gc_S d) cX11_game 11 0 R 8 L st μ else gc_W (gc_S d) cX11_game 11 0 R 14 L st μ := us_ifne dX11_game_5 rfl
theorem u120_8 {d : Nat} {R : gR} {μ : gM} {l1 l2 l3 : Value} {st : List Value} {x : Nat}  : gc_W (gc_S d) cX11_game 11 0 R 8 [.ref x, l1, l2, l3] st μ ↔ gc_W (gc_S d) cX11_game 11 0 R 9 [.ref x, l1, l2, l3] (.ref x :: st) μ := us_aload_n dX11_game_8 rfl
theorem u120_9 {d : Nat} {R : gR} {μ : gM} {L : List Value} {st : List Value}   : gc_W (gc_S d) cX11_game 11 0 R 9 L st μ ↔ gc_W (gc_S d) cX11_game 11 0 R 10 L (.int 1 :: st) μ := us_iconst dX11_game_9 ci_iconst_1
theorem u120_10 {d : Nat} {R : gR} {μ : gM} {L : List Value} {o : Nat} {a0 : Int32} (hk : gc_kd o = 11) : gc_W (gc_S d) cX11_game 11 0 R 10 L [.int a0, .ref o] μ ↔ gc_S d 75 [.ref o, .int a0] μ (fun v μ' => gc_W (gc_S d) cX11_game 11 0 R 13 L (v.toList ++ []) μ') := us_virt dX11_game_10 gn_11_88 gc_11_88_11 hk rfl rfl rfl rfl rfl
theorem u120_13 {d : Nat} {R : gR} {μ : gM} {L : List Value} {v : Int32}  : gc_W (gc_S d) cX11_game 11 0 R 13 L [.int v] μ ↔ R (some (.int v)) μ := us_iret dX11_game_13 rfl
theorem u120_14 {d : Nat} {R : gR} {μ : gM} {l1 l2 l3 : Value} {st : List Value} {x : Nat}  : gc_W (gc_S d) cX11_game 11 0 R 14 [.ref x, l1, l2, l3] st μ ↔ gc_W (gc_S d) cX11_game 11 0 R 15 [.ref x, l1, l2, l3] (.ref x :: st) μ := us_aload_n dX11_game_14 rfl
theorem u120_15 {d : Nat} {R : gR} {μ : gM} {L : List Value} {st : List Value} {o : Nat} (hk : gc_kd o = 11) : gc_W (gc_S d) cX11_game 11 0 R 15 L (.ref o :: st) μ ↔ gc_W (gc_S d) cX11_game 11 0 R 18 L (gc_fv o 0 μ :: st) μ := us_getf dX11_game_15 gf_11_38 hk
theorem u120_18 {d : Nat} {R : gR} {μ : gM} {L : List Value} {o : Nat} (hk : gc_kd o = 0) : gc_W (gc_S d) cX11_game 11 0 R 18 L [.ref o] μ ↔ gc_S d 5 [.ref o] μ (fun v μ' => gc_W (gc_S d) cX11_game 11 0 R 21 L (v.toList ++ []) μ') := us_virt dX11_game_18 gn_11_204 gc_11_204_0 hk rfl rfl rfl rfl rfl
theorem u120_21 {d : Nat} {R : gR} {μ : gM} {l0 l1 l2 l3 : Value} {st : List Value} {x : Int32} (hs : gc_sk l2 = true) : gc_W (gc_S d) cX11_game 11 0 R 21 [l0, l1, l2, l3] (.int x :: st) μ ↔ gc_W (gc_S d) cX11_game 11 0 R 22 [l0, l1, .int x, l3] st μ := us_istore_n dX11_game_21 rfl hs
theorem u120_22 {d : Nat} {R : gR} {μ : gM} {l0 l1 l3 : Value} {st : List Value} {x : Int32}  : gc_W (gc_S d) cX11_game 11 0 R 22 [l0, l1, .int x, l3] st μ ↔ gc_W (gc_S d) cX11_game 11 0 R 23 [l0, l1, .int x, l3] (.int x :: st) μ := us_iload_n dX11_game_22 rfl
theorem u120_23 {d : Nat} {R : gR} {μ : gM} {L : List Value}  {a0 : Int32}  : gc_W (gc_S d) cX11_game 11 0 R 23 L [.int a0] μ ↔ gc_S d 30 [.int a0] μ (fun v μ' => gc_W (gc_S d) cX11_game 11 0 R 26 L (v.toList ++ []) μ') := us_stat dX11_game_23 gs_11_109 gne_11_109 gn_11_109 gc_11_109_97 rfl rfl rfl rfl
theorem u120_26 {d : Nat} {R : gR} {μ : gM} {L : List Value} {st : List Value}   : gc_W (gc_S d) cX11_game 11 0 R 26 L st μ ↔ gc_W (gc_S d) cX11_game 11 0 R 28 L (.int 10 :: st) μ := us_bipush dX11_game_26 ci_bipush_10
theorem u120_28 {d : Nat} {R : gR} {μ : gM} {L : List Value} {st : List Value} {x y : Int32}  : gc_W (gc_S d) cX11_game 11 0 R 28 L (.int y :: .int x :: st) μ ↔ if x ≤ y then gc_W (gc_S d) cX11_game 11 0 R 37 L st μ else gc_W (gc_S d) cX11_game 11 0 R 31 L st μ := us_icle dX11_game_28 rfl
theorem u120_31 {d : Nat} {R : gR} {μ : gM} {l1 l2 l3 : Value} {st : List Value} {x : Nat}  : gc_W (gc_S d) cX11_game 11 0 R 31 [.ref x, l1, l2, l3] st μ ↔ gc_W (gc_S d) cX11_game 11 0 R 32 [.ref x, l1, l2, l3] (.ref x :: st) μ := us_aload_n dX11_game_31 rfl
theorem u120_32 {d : Nat} {R : gR} {μ : gM} {L : List Value} {st : List Value}   : gc_W (gc_S d) cX11_game 11 0 R 32 L st μ ↔ gc_W (gc_S d) cX11_game 11 0 R 33 L (.int 3 :: st) μ := us_iconst dX11_game_32 ci_iconst_3
theorem u120_33 {d : Nat} {R : gR} {μ : gM} {L : List Value} {o : Nat} {a0 : Int32} (hk : gc_kd o = 11) : gc_W (gc_S d) cX11_game 11 0 R 33 L [.int a0, .ref o] μ ↔ gc_S d 75 [.ref o, .int a0] μ (fun v μ' => gc_W (gc_S d) cX11_game 11 0 R 36 L (v.toList ++ []) μ') := us_virt dX11_game_33 gn_11_88 gc_11_88_11 hk rfl rfl rfl rfl rfl
theorem u120_36 {d : Nat} {R : gR} {μ : gM} {L : List Value} {v : Int32}  : gc_W (gc_S d) cX11_game 11 0 R 36 L [.int v] μ ↔ R (some (.int v)) μ := us_iret dX11_game_36 rfl
theorem u120_37 {d : Nat} {R : gR} {μ : gM} {l1 l2 l3 : Value} {st : List Value} {x : Nat}  : gc_W (gc_S d) cX11_game 11 0 R 37 [.ref x, l1, l2, l3] st μ ↔ gc_W (gc_S d) cX11_game 11 0 R 38 [.ref x, l1, l2, l3] (.ref x :: st) μ := us_aload_n dX11_game_37 rfl
theorem u120_38 {d : Nat} {R : gR} {μ : gM} {l0 l1 l3 : Value} {st : List Value} {x : Int32}  : gc_W (gc_S d) cX11_game 11 0 R 38 [l0, l1, .int x, l3] st μ ↔ gc_W (gc_S d) cX11_game 11 0 R 39 [l0, l1, .int x, l3] (.int x :: st) μ := us_iload_n dX11_game_38 rfl
theorem u120_39 {d : Nat} {R : gR} {μ : gM} {L : List Value} {o : Nat} {a0 : Int32} (hk : gc_kd o = 11) : gc_W (gc_S d) cX11_game 11 0 R 39 L [.int a0, .ref o] μ ↔ gc_S d 119 [.ref o, .int a0] μ (fun v μ' => gc_W (gc_S d) cX11_game 11 0 R 42 L (v.toList ++ []) μ') := us_virt dX11_game_39 gn_11_229 gc_11_229_11 hk rfl rfl rfl rfl rfl
theorem u120_42 {d : Nat} {R : gR} {μ : gM} {l0 l1 l2 l3 : Value} {st : List Value} {x : Int32} (hs : gc_sk l3 = true) : gc_W (gc_S d) cX11_game 11 0 R 42 [l0, l1, l2, l3] (.int x :: st) μ ↔ gc_W (gc_S d) cX11_game 11 0 R 43 [l0, l1, l2, .int x] st μ := us_istore_n dX11_game_42 rfl hs
theorem u120_43 {d : Nat} {R : gR} {μ : gM} {l0 l2 l3 : Value} {st : List Value} {x : Int32}  : gc_W (gc_S d) cX11_game 11 0 R 43 [l0, .int x, l2, l3] st μ ↔ gc_W (gc_S d) cX11_game 11 0 R 44 [l0, .int x, l2, l3] (.int x :: st) μ := us_iload_n dX11_game_43 rfl
theorem u120_44 {d : Nat} {R : gR} {μ : gM} {L : List Value} {st : List Value} {x : Int32}  : gc_W (gc_S d) cX11_game 11 0 R 44 L (.int x :: st) μ ↔ if x = 0 then gc_W (gc_S d) cX11_game 11 0 R 47 L st μ else gc_W (gc_S d) cX11_game 11 0 R 57 L st μ := us_ifne dX11_game_44 rfl
theorem u120_47 {d : Nat} {R : gR} {μ : gM} {l0 l1 l2 : Value} {st : List Value} {x : Int32}  : gc_W (gc_S d) cX11_game 11 0 R 47 [l0, l1, l2, .int x] st μ ↔ gc_W (gc_S d) cX11_game 11 0 R 48 [l0, l1, l2, .int x] (.int x :: st) μ := us_iload_n dX11_game_47 rfl
theorem u120_48 {d : Nat} {R : gR} {μ : gM} {L : List Value} {st : List Value} {x : Int32}  : gc_W (gc_S d) cX11_game 11 0 R 48 L (.int x :: st) μ ↔ if x = 0 then gc_W (gc_S d) cX11_game 11 0 R 51 L st μ else gc_W (gc_S d) cX11_game 11 0 R 55 L st μ := us_ifne dX11_game_48 rfl
theorem u120_51 {d : Nat} {R : gR} {μ : gM} {L : List Value} {st : List Value}   : gc_W (gc_S d) cX11_game 11 0 R 51 L st μ ↔ gc_W (gc_S d) cX11_game 11 0 R 52 L (.int 0 :: st) μ := us_iconst dX11_game_51 ci_iconst_0
theorem u120_52 {d : Nat} {R : gR} {μ : gM} {L : List Value} {st : List Value}  : gc_W (gc_S d) cX11_game 11 0 R 52 L st μ ↔ gc_W (gc_S d) cX11_game 11 0 R 56 L st μ := us_goto dX11_game_52 rfl
theorem u120_55 {d : Nat} {R : gR} {μ : gM} {L : List Value} {st : List Value}   : gc_W (gc_S d) cX11_game 11 0 R 55 L st μ ↔ gc_W (gc_S d) cX11_game 11 0 R 56 L (.int 1 :: st) μ := us_iconst dX11_game_55 ci_iconst_1
theorem u120_56 {d : Nat} {R : gR} {μ : gM} {L : List Value} {v : Int32}  : gc_W (gc_S d) cX11_game 11 0 R 56 L [.int v] μ ↔ R (some (.int v)) μ := us_iret dX11_game_56 rfl
theorem u120_57 {d : Nat} {R : gR} {μ : gM} {l0 l1 l2 : Value} {st : List Value} {x : Int32}  : gc_W (gc_S d) cX11_game 11 0 R 57 [l0, l1, l2, .int x] st μ ↔ gc_W (gc_S d) cX11_game 11 0 R 58 [l0, l1, l2, .int x] (.int x :: st) μ := us_iload_n dX11_game_57 rfl
theorem u120_58 {d : Nat} {R : gR} {μ : gM} {L : List Value} {st : List Value} {x : Int32}  : gc_W (gc_S d) cX11_game 11 0 R 58 L (.int x :: st) μ ↔ if x = 0 then gc_W (gc_S d) cX11_game 11 0 R 61 L st μ else gc_W (gc_S d) cX11_game 11 0 R 69 L st μ := us_ifne dX11_game_58 rfl
theorem u120_61 {d : Nat} {R : gR} {μ : gM} {l1 l2 l3 : Value} {st : List Value} {x : Nat}  : gc_W (gc_S d) cX11_game 11 0 R 61 [.ref x, l1, l2, l3] st μ ↔ gc_W (gc_S d) cX11_game 11 0 R 62 [.ref x, l1, l2, l3] (.ref x :: st) μ := us_aload_n dX11_game_61 rfl
theorem u120_62 {d : Nat} {R : gR} {μ : gM} {L : List Value} {st : List Value}   : gc_W (gc_S d) cX11_game 11 0 R 62 L st μ ↔ gc_W (gc_S d) cX11_game 11 0 R 63 L (.int 2 :: st) μ := us_iconst dX11_game_62 ci_iconst_2
theorem u120_63 {d : Nat} {R : gR} {μ : gM} {L : List Value} {o : Nat} {a0 : Int32} (hk : gc_kd o = 11) : gc_W (gc_S d) cX11_game 11 0 R 63 L [.int a0, .ref o] μ ↔ gc_S d 75 [.ref o, .int a0] μ (fun v μ' => gc_W (gc_S d) cX11_game 11 0 R 66 L (v.toList ++ []) μ') := us_virt dX11_game_63 gn_11_88 gc_11_88_11 hk rfl rfl rfl rfl rfl
theorem u120_66 {d : Nat} {R : gR} {μ : gM} {L : List Value} {st : List Value}  : gc_W (gc_S d) cX11_game 11 0 R 66 L st μ ↔ gc_W (gc_S d) cX11_game 11 0 R 70 L st μ := us_goto dX11_game_66 rfl
theorem u120_69 {d : Nat} {R : gR} {μ : gM} {l0 l1 l2 : Value} {st : List Value} {x : Int32}  : gc_W (gc_S d) cX11_game 11 0 R 69 [l0, l1, l2, .int x] st μ ↔ gc_W (gc_S d) cX11_game 11 0 R 70 [l0, l1, l2, .int x] (.int x :: st) μ := us_iload_n dX11_game_69 rfl
theorem u120_70 {d : Nat} {R : gR} {μ : gM} {L : List Value} {v : Int32}  : gc_W (gc_S d) cX11_game 11 0 R 70 L [.int v] μ ↔ R (some (.int v)) μ := us_iret dX11_game_70 rfl
theorem s120 {d : Nat} {R : gR} {μ : gM} {o : Nat} {a0 : Int32} : gc_S (d + 1) 120 [.ref o, .int a0] μ R ↔ gc_W (gc_S d) cX11_game 11 0 R 0 [.ref o, .int a0, .retAddr 0, .retAddr 0] [] μ := us_call (gm_120) rfl rfl
theorem dX11_isSheet_0 : decode cX11_isSheet 0 = .ok (.iconst 3, 1) := by decide +kernel
theorem dX11_isSheet_1 : decode cX11_isSheet 1 = .ok (.iload_n 0, 1) := by decide +kernel
theorem dX11_isSheet_2 : decode cX11_isSheet 2 = .ok (.invokestatic 84, 3) := by decide +kernel
theorem dX11_isSheet_5 : decode cX11_isSheet 5 = .ok (.ireturn, 1) := by decide +kernel
theorem u121_0 {d : Nat} {R : gR} {μ : gM} {L : List Value} {st : List Value}   : gc_W (gc_S d) cX11_isSheet 11 1 R 0 L st μ ↔ gc_W (gc_S d) cX11_isSheet 11 1 R 1 L (.int 3 :: st) μ := us_iconst dX11_isSheet_0 ci_iconst_3
theorem u121_1 {d : Nat} {R : gR} {μ : gM} {st : List Value} {x : Int32}  : gc_W (gc_S d) cX11_isSheet 11 1 R 1 [.int x] st μ ↔ gc_W (gc_S d) cX11_isSheet 11 1 R 2 [.int x] (.int x :: st) μ := us_iload_n dX11_isSheet_1 rfl
theorem u121_2 {d : Nat} {R : gR} {μ : gM} {L : List Value}  {a0 a1 : Int32}  : gc_W (gc_S d) cX11_isSheet 11 1 R 2 L [.int a1, .int a0] μ ↔ gc_S d 73 [.int a0, .int a1] μ (fun v μ' => gc_W (gc_S d) cX11_isSheet 11 1 R 5 L (v.toList ++ []) μ') := us_stat dX11_isSheet_2 gs_11_84 gne_11_84 gn_11_84 gc_11_84_97 rfl rfl rfl rfl
theorem u121_5 {d : Nat} {R : gR} {μ : gM} {L : List Value} {v : Int32}  : gc_W (gc_S d) cX11_isSheet 11 1 R 5 L [.int v] μ ↔ ((v = 0 ∨ v = 1) ∧ R (some (.int v)) μ) := us_zret dX11_isSheet_5 rfl
theorem s121 {d : Nat} {R : gR} {μ : gM} {a0 : Int32} : gc_S (d + 1) 121 [.int a0] μ R ↔ gc_W (gc_S d) cX11_isSheet 11 1 R 0 [.int a0] [] μ := us_call (gm_121) rfl rfl
theorem dX11_firstUntrue_0 : decode cX11_firstUntrue 0 = .ok (.iconst 0, 1) := by decide +kernel
theorem dX11_firstUntrue_1 : decode cX11_firstUntrue 1 = .ok (.istore_n 2, 1) := by decide +kernel
theorem dX11_firstUntrue_2 : decode cX11_firstUntrue 2 = .ok (.iload_n 2, 1) := by decide +kernel
theorem dX11_firstUntrue_3 : decode cX11_firstUntrue 3 = .ok (.aload_n 1, 1) := by decide +kernel
theorem dX11_firstUntrue_4 : decode cX11_firstUntrue 4 = .ok (.getfield 161, 3) := by decide +kernel
theorem dX11_firstUntrue_7 : decode cX11_firstUntrue 7 = .ok (.if_icmp .ge 34, 3) := by decide +kernel
theorem dX11_firstUntrue_10 : decode cX11_firstUntrue 10 = .ok (.aload_n 0, 1) := by decide +kernel
theorem dX11_firstUntrue_11 : decode cX11_firstUntrue 11 = .ok (.getfield 42, 3) := by decide +kernel
theorem dX11_firstUntrue_14 : decode cX11_firstUntrue 14 = .ok (.invokevirtual 189, 3) := by decide +kernel
theorem dX11_firstUntrue_17 : decode cX11_firstUntrue 17 = .ok (.aload_n 0, 1) := by decide +kernel
theorem dX11_firstUntrue_18 : decode cX11_firstUntrue 18 = .ok (.getfield 42, 3) := by decide +kernel
theorem dX11_firstUntrue_21 : decode cX11_firstUntrue 21 = .ok (.invokevirtual 192, 3) := by decide +kernel
theorem dX11_firstUntrue_24 : decode cX11_firstUntrue 24 = .ok (.aload_n 1, 1) := by decide +kernel
theorem dX11_firstUntrue_25 : decode cX11_firstUntrue 25 = .ok (.getfield 273, 3) := by decide +kernel
theorem dX11_firstUntrue_28 : decode cX11_firstUntrue 28 = .ok (.iload_n 2, 1) := by decide +kernel
theorem dX11_firstUntrue_29 : decode cX11_firstUntrue 29 = .ok (.iaload, 1) := by decide +kernel
theorem dX11_firstUntrue_30 : decode cX11_firstUntrue 30 = .ok (.if_icmp .eq 5, 3) := by decide +kernel
theorem dX11_firstUntrue_33 : decode cX11_firstUntrue 33 = .ok (.iload_n 2, 1) := by decide +kernel
theorem dX11_firstUntrue_34 : decode cX11_firstUntrue 34 = .ok (.ireturn, 1) := by decide +kernel
theorem dX11_firstUntrue_35 : decode cX11_firstUntrue 35 = .ok (.iinc 2 1, 3) := by decide +kernel
theorem dX11_firstUntrue_38 : decode cX11_firstUntrue 38 = .ok (.goto (-36), 3) := by decide +kernel
theorem dX11_firstUntrue_41 : decode cX11_firstUntrue 41 = .ok (.iconst (-1), 1) := by decide +kernel
theorem dX11_firstUntrue_42 : decode cX11_firstUntrue 42 = .ok (.ireturn, 1) := by decide +kernel
theorem u122_0 {d : Nat} {R : gR} {μ : gM} {L : List Value} {st : List Value}   : gc_W (gc_S d) cX11_firstUntrue 11 0 R 0 L st μ ↔ gc_W (gc_S d) cX11_firstUntrue 11 0 R 1 L (.int 0 :: st) μ := us_iconst dX11_firstUntrue_0 ci_iconst_0
theorem u122_1 {d : Nat} {R : gR} {μ : gM} {l0 l1 l2 : Value} {st : List Value} {x : Int32} (hs : gc_sk l2 = true) : gc_W (gc_S d) cX11_firstUntrue 11 0 R 1 [l0, l1, l2] (.int x :: st) μ ↔ gc_W (gc_S d) cX11_firstUntrue 11 0 R 2 [l0, l1, .int x] st μ := us_istore_n dX11_firstUntrue_1 rfl hs
theorem u122_2 {d : Nat} {R : gR} {μ : gM} {l0 l1 : Value} {st : List Value} {x : Int32}  : gc_W (gc_S d) cX11_firstUntrue 11 0 R 2 [l0, l1, .int x] st μ ↔ gc_W (gc_S d) cX11_firstUntrue 11 0 R 3 [l0, l1, .int x] (.int x :: st) μ := us_iload_n dX11_firstUntrue_2 rfl
theorem u122_3 {d : Nat} {R : gR} {μ : gM} {l0 l2 : Value} {st : List Value} {x : Nat}  : gc_W (gc_S d) cX11_firstUntrue 11 0 R 3 [l0, .ref x, l2] st μ ↔ gc_W (gc_S d) cX11_firstUntrue 11 0 R 4 [l0, .ref x, l2] (.ref x :: st) μ := us_aload_n dX11_firstUntrue_3 rfl
theorem u122_4 {d : Nat} {R : gR} {μ : gM} {L : List Value} {st : List Value} {o : Nat} (hk : gc_kd o = 7) : gc_W (gc_S d) cX11_firstUntrue 11 0 R 4 L (.ref o :: st) μ ↔ gc_W (gc_S d) cX11_firstUntrue 11 0 R 7 L (gc_fv o 1 μ :: st) μ := us_getf dX11_firstUntrue_4 gf_11_161 hk
theorem u122_7 {d : Nat} {R : gR} {μ : gM} {L : List Value} {st : List Value} {x y : Int32}  : gc_W (gc_S d) cX11_firstUntrue 11 0 R 7 L (.int y :: .int x :: st) μ ↔ if y ≤ x then gc_W (gc_S d) cX11_firstUntrue 11 0 R 41 L st μ else gc_W (gc_S d) cX11_firstUntrue 11 0 R 10 L st μ := us_icge dX11_firstUntrue_7 rfl
theorem u122_10 {d : Nat} {R : gR} {μ : gM} {l1 l2 : Value} {st : List Value} {x : Nat}  : gc_W (gc_S d) cX11_firstUntrue 11 0 R 10 [.ref x, l1, l2] st μ ↔ gc_W (gc_S d) cX11_firstUntrue 11 0 R 11 [.ref x, l1, l2] (.ref x :: st) μ := us_aload_n dX11_firstUntrue_10 rfl
theorem u122_11 {d : Nat} {R : gR} {μ : gM} {L : List Value} {st : List Value} {o : Nat} (hk : gc_kd o = 11) : gc_W (gc_S d) cX11_firstUntrue 11 0 R 11 L (.ref o :: st) μ ↔ gc_W (gc_S d) cX11_firstUntrue 11 0 R 14 L (gc_fv o 1 μ :: st) μ := us_getf dX11_firstUntrue_11 gf_11_42 hk
theorem u122_14 {d : Nat} {R : gR} {μ : gM} {L : List Value} {o : Nat} (hk : gc_kd o = 0) : gc_W (gc_S d) cX11_firstUntrue 11 0 R 14 L [.ref o] μ ↔ gc_S d 38 [.ref o] μ (fun v μ' => gc_W (gc_S d) cX11_firstUntrue 11 0 R 17 L (v.toList ++ []) μ') := us_virt dX11_firstUntrue_14 gn_11_189 gc_11_189_0 hk rfl rfl rfl rfl rfl
theorem u122_17 {d : Nat} {R : gR} {μ : gM} {l1 l2 : Value} {st : List Value} {x : Nat}  : gc_W (gc_S d) cX11_firstUntrue 11 0 R 17 [.ref x, l1, l2] st μ ↔ gc_W (gc_S d) cX11_firstUntrue 11 0 R 18 [.ref x, l1, l2] (.ref x :: st) μ := us_aload_n dX11_firstUntrue_17 rfl
theorem u122_18 {d : Nat} {R : gR} {μ : gM} {L : List Value} {st : List Value} {o : Nat} (hk : gc_kd o = 11) : gc_W (gc_S d) cX11_firstUntrue 11 0 R 18 L (.ref o :: st) μ ↔ gc_W (gc_S d) cX11_firstUntrue 11 0 R 21 L (gc_fv o 1 μ :: st) μ := us_getf dX11_firstUntrue_18 gf_11_42 hk
theorem u122_21 {d : Nat} {R : gR} {μ : gM} {L : List Value} {o : Nat} (hk : gc_kd o = 0) : gc_W (gc_S d) cX11_firstUntrue 11 0 R 21 L [.ref o] μ ↔ gc_S d 8 [.ref o] μ (fun v μ' => gc_W (gc_S d) cX11_firstUntrue 11 0 R 24 L (v.toList ++ []) μ') := us_virt dX11_firstUntrue_21 gn_11_192 gc_11_192_0 hk rfl rfl rfl rfl rfl
theorem u122_24 {d : Nat} {R : gR} {μ : gM} {l0 l2 : Value} {st : List Value} {x : Nat}  : gc_W (gc_S d) cX11_firstUntrue 11 0 R 24 [l0, .ref x, l2] st μ ↔ gc_W (gc_S d) cX11_firstUntrue 11 0 R 25 [l0, .ref x, l2] (.ref x :: st) μ := us_aload_n dX11_firstUntrue_24 rfl
theorem u122_25 {d : Nat} {R : gR} {μ : gM} {L : List Value} {st : List Value} {o : Nat} (hk : gc_kd o = 7) : gc_W (gc_S d) cX11_firstUntrue 11 0 R 25 L (.ref o :: st) μ ↔ gc_W (gc_S d) cX11_firstUntrue 11 0 R 28 L (gc_fv o 0 μ :: st) μ := us_getf dX11_firstUntrue_25 gf_11_273 hk
theorem u122_28 {d : Nat} {R : gR} {μ : gM} {l0 l1 : Value} {st : List Value} {x : Int32}  : gc_W (gc_S d) cX11_firstUntrue 11 0 R 28 [l0, l1, .int x] st μ ↔ gc_W (gc_S d) cX11_firstUntrue 11 0 R 29 [l0, l1, .int x] (.int x :: st) μ := us_iload_n dX11_firstUntrue_28 rfl
theorem u122_29 {d : Nat} {R : gR} {μ : gM} {L : List Value} {st : List Value} {o : Nat} {i : Int32} (hk : gc_kd o = 20) : gc_W (gc_S d) cX11_firstUntrue 11 0 R 29 L (.int i :: .ref o :: st) μ ↔ (vp_in i (gc_al o) ∧ gc_W (gc_S d) cX11_firstUntrue 11 0 R 30 L (.int (μ o i.toNatClampNeg) :: st) μ) := us_iald dX11_firstUntrue_29 hk
theorem u122_30 {d : Nat} {R : gR} {μ : gM} {L : List Value} {st : List Value} {x y : Int32}  : gc_W (gc_S d) cX11_firstUntrue 11 0 R 30 L (.int y :: .int x :: st) μ ↔ if x = y then gc_W (gc_S d) cX11_firstUntrue 11 0 R 35 L st μ else gc_W (gc_S d) cX11_firstUntrue 11 0 R 33 L st μ := us_iceq dX11_firstUntrue_30 rfl
theorem u122_33 {d : Nat} {R : gR} {μ : gM} {l0 l1 : Value} {st : List Value} {x : Int32}  : gc_W (gc_S d) cX11_firstUntrue 11 0 R 33 [l0, l1, .int x] st μ ↔ gc_W (gc_S d) cX11_firstUntrue 11 0 R 34 [l0, l1, .int x] (.int x :: st) μ := us_iload_n dX11_firstUntrue_33 rfl
theorem u122_34 {d : Nat} {R : gR} {μ : gM} {L : List Value} {v : Int32}  : gc_W (gc_S d) cX11_firstUntrue 11 0 R 34 L [.int v] μ ↔ R (some (.int v)) μ := us_iret dX11_firstUntrue_34 rfl
theorem u122_35 {d : Nat} {R : gR} {μ : gM} {l0 l1 : Value} {st : List Value} {x : Int32}  : gc_W (gc_S d) cX11_firstUntrue 11 0 R 35 [l0, l1, .int x] st μ ↔ gc_W (gc_S d) cX11_firstUntrue 11 0 R 38 [l0, l1, .int (x + 1)] st μ := us_iinc dX11_firstUntrue_35 rfl ci_iinc_1
theorem u122_38 {d : Nat} {R : gR} {μ : gM} {L : List Value} {st : List Value}  : gc_W (gc_S d) cX11_firstUntrue 11 0 R 38 L st μ ↔ gc_W (gc_S d) cX11_firstUntrue 11 0 R 2 L st μ := us_goto dX11_firstUntrue_38 rfl
theorem u122_41 {d : Nat} {R : gR} {μ : gM} {L : List Value} {st : List Value}   : gc_W (gc_S d) cX11_firstUntrue 11 0 R 41 L st μ ↔ gc_W (gc_S d) cX11_firstUntrue 11 0 R 42 L (.int (-1) :: st) μ := us_iconst dX11_firstUntrue_41 ci_iconst_m1
theorem u122_42 {d : Nat} {R : gR} {μ : gM} {L : List Value} {v : Int32}  : gc_W (gc_S d) cX11_firstUntrue 11 0 R 42 L [.int v] μ ↔ R (some (.int v)) μ := us_iret dX11_firstUntrue_42 rfl
theorem s122 {d : Nat} {R : gR} {μ : gM} {o : Nat} {a0 : Nat} : gc_S (d + 1) 122 [.ref o, .ref a0] μ R ↔ gc_W (gc_S d) cX11_firstUntrue 11 0 R 0 [.ref o, .ref a0, .retAddr 0] [] μ := us_call (gm_122) rfl rfl
theorem dX11_which_0 : decode cX11_which 0 = .ok (.iload_n 1, 1) := by decide +kernel
theorem dX11_which_1 : decode cX11_which 1 = .ok (.invokestatic 232, 3) := by decide +kernel
theorem dX11_which_4 : decode cX11_which 4 = .ok (.ifCond .eq 11, 3) := by decide +kernel
theorem dX11_which_7 : decode cX11_which 7 = .ok (.aload_n 0, 1) := by decide +kernel
theorem dX11_which_8 : decode cX11_which 8 = .ok (.iload_n 2, 1) := by decide +kernel
theorem dX11_which_9 : decode cX11_which 9 = .ok (.invokevirtual 135, 3) := by decide +kernel
theorem dX11_which_12 : decode cX11_which 12 = .ok (.ifCond .ne 9, 3) := by decide +kernel
theorem dX11_which_15 : decode cX11_which 15 = .ok (.aload_n 0, 1) := by decide +kernel
theorem dX11_which_16 : decode cX11_which 16 = .ok (.iconst 1, 1) := by decide +kernel
theorem dX11_which_17 : decode cX11_which 17 = .ok (.invokevirtual 88, 3) := by decide +kernel
theorem dX11_which_20 : decode cX11_which 20 = .ok (.ireturn, 1) := by decide +kernel
theorem dX11_which_21 : decode cX11_which 21 = .ok (.aload_n 0, 1) := by decide +kernel
theorem dX11_which_22 : decode cX11_which 22 = .ok (.getfield 54, 3) := by decide +kernel
theorem dX11_which_25 : decode cX11_which 25 = .ok (.iload_n 1, 1) := by decide +kernel
theorem dX11_which_26 : decode cX11_which 26 = .ok (.aaload, 1) := by decide +kernel
theorem dX11_which_27 : decode cX11_which 27 = .ok (.getfield 235, 3) := by decide +kernel
theorem dX11_which_30 : decode cX11_which 30 = .ok (.ifCond .ne 9, 3) := by decide +kernel
theorem dX11_which_33 : decode cX11_which 33 = .ok (.aload_n 0, 1) := by decide +kernel
theorem dX11_which_34 : decode cX11_which 34 = .ok (.iconst 2, 1) := by decide +kernel
theorem dX11_which_35 : decode cX11_which 35 = .ok (.invokevirtual 88, 3) := by decide +kernel
theorem dX11_which_38 : decode cX11_which 38 = .ok (.ireturn, 1) := by decide +kernel
theorem dX11_which_39 : decode cX11_which 39 = .ok (.iconst 0, 1) := by decide +kernel
theorem dX11_which_40 : decode cX11_which 40 = .ok (.istore_n 3, 1) := by decide +kernel
theorem dX11_which_41 : decode cX11_which 41 = .ok (.iconst 0, 1) := by decide +kernel
theorem dX11_which_42 : decode cX11_which 42 = .ok (.istore 4, 2) := by decide +kernel
theorem dX11_which_44 : decode cX11_which 44 = .ok (.iload 4, 2) := by decide +kernel
theorem dX11_which_46 : decode cX11_which 46 = .ok (.bipush 7, 2) := by decide +kernel
theorem dX11_which_48 : decode cX11_which 48 = .ok (.if_icmp .ge 37, 3) := by decide +kernel
theorem dX11_which_51 : decode cX11_which 51 = .ok (.aload_n 0, 1) := by decide +kernel
theorem dX11_which_52 : decode cX11_which 52 = .ok (.iconst 2, 1) := by decide +kernel
theorem dX11_which_53 : decode cX11_which 53 = .ok (.iload_n 2, 1) := by decide +kernel
theorem dX11_which_54 : decode cX11_which 54 = .ok (.iload 4, 2) := by decide +kernel
theorem dX11_which_56 : decode cX11_which 56 = .ok (.invokevirtual 238, 3) := by decide +kernel
theorem dX11_which_59 : decode cX11_which 59 = .ok (.aload_n 0, 1) := by decide +kernel
theorem dX11_which_60 : decode cX11_which 60 = .ok (.aload_n 0, 1) := by decide +kernel
theorem dX11_which_61 : decode cX11_which 61 = .ok (.getfield 54, 3) := by decide +kernel
theorem dX11_which_64 : decode cX11_which 64 = .ok (.iload_n 1, 1) := by decide +kernel
theorem dX11_which_65 : decode cX11_which 65 = .ok (.aaload, 1) := by decide +kernel
theorem dX11_which_66 : decode cX11_which 66 = .ok (.invokevirtual 242, 3) := by decide +kernel
theorem dX11_which_69 : decode cX11_which 69 = .ok (.ifCond .ge 10, 3) := by decide +kernel
theorem dX11_which_72 : decode cX11_which 72 = .ok (.iload_n 3, 1) := by decide +kernel
theorem dX11_which_73 : decode cX11_which 73 = .ok (.iconst 1, 1) := by decide +kernel
theorem dX11_which_74 : decode cX11_which 74 = .ok (.iload 4, 2) := by decide +kernel
theorem dX11_which_76 : decode cX11_which 76 = .ok (.ishl, 1) := by decide +kernel
theorem dX11_which_77 : decode cX11_which 77 = .ok (.ior, 1) := by decide +kernel
theorem dX11_which_78 : decode cX11_which 78 = .ok (.istore_n 3, 1) := by decide +kernel
theorem dX11_which_79 : decode cX11_which 79 = .ok (.iinc 4 1, 3) := by decide +kernel
theorem dX11_which_82 : decode cX11_which 82 = .ok (.goto (-38), 3) := by decide +kernel
theorem dX11_which_85 : decode cX11_which 85 = .ok (.iload_n 3, 1) := by decide +kernel
theorem dX11_which_86 : decode cX11_which 86 = .ok (.ireturn, 1) := by decide +kernel
theorem u123_0 {d : Nat} {R : gR} {μ : gM} {l0 l2 l3 l4 : Value} {st : List Value} {x : Int32}  : gc_W (gc_S d) cX11_which 11 0 R 0 [l0, .int x, l2, l3, l4] st μ ↔ gc_W (gc_S d) cX11_which 11 0 R 1 [l0, .int x, l2, l3, l4] (.int x :: st) μ := us_iload_n dX11_which_0 rfl
theorem u123_1 {d : Nat} {R : gR} {μ : gM} {L : List Value}  {a0 : Int32}  : gc_W (gc_S d) cX11_which 11 0 R 1 L [.int a0] μ ↔ gc_S d 121 [.int a0] μ (fun v μ' => gc_W (gc_S d) cX11_which 11 0 R 4 L (v.toList ++ []) μ') := us_stat dX11_which_1 gs_11_232 gne_11_232 gn_11_232 gc_11_232_97 rfl rfl rfl rfl
theorem u123_4 {d : Nat} {R : gR} {μ : gM} {L : List Value} {st : List Value} {x : Int32}  : gc_W (gc_S d) cX11_which 11 0 R 4 L (.int x :: st) μ ↔ if x = 0 then gc_W (gc_S d) cX11_which 11 0 R 15 L st μ else gc_W (gc_S d) cX11_which 11 0 R 7 L st μ := us_ifeq dX11_which_4 rfl
theorem u123_7 {d : Nat} {R : gR} {μ : gM} {l1 l2 l3 l4 : Value} {st : List Value} {x : Nat}  : gc_W (gc_S d) cX11_which 11 0 R 7 [.ref x, l1, l2, l3, l4] st μ ↔ gc_W (gc_S d) cX11_which 11 0 R 8 [.ref x, l1, l2, l3, l4] (.ref x :: st) μ := us_aload_n dX11_which_7 rfl
theorem u123_8 {d : Nat} {R : gR} {μ : gM} {l0 l1 l3 l4 : Value} {st : List Value} {x : Int32}  : gc_W (gc_S d) cX11_which 11 0 R 8 [l0, l1, .int x, l3, l4] st μ ↔ gc_W (gc_S d) cX11_which 11 0 R 9 [l0, l1, .int x, l3, l4] (.int x :: st) μ := us_iload_n dX11_which_8 rfl
theorem u123_9 {d : Nat} {R : gR} {μ : gM} {L : List Value} {o : Nat} {a0 : Int32} (hk : gc_kd o = 11) : gc_W (gc_S d) cX11_which 11 0 R 9 L [.int a0, .ref o] μ ↔ gc_S d 82 [.ref o, .int a0] μ (fun v μ' => gc_W (gc_S d) cX11_which 11 0 R 12 L (v.toList ++ []) μ') := us_virt dX11_which_9 gn_11_135 gc_11_135_11 hk rfl rfl rfl rfl rfl
theorem u123_12 {d : Nat} {R : gR} {μ : gM} {L : List Value} {st : List Value} {x : Int32}  : gc_W (gc_S d) cX11_which 11 0 R 12 L (.int x :: st) μ ↔ if x = 0 then gc_W (gc_S d) cX11_which 11 0 R 15 L st μ else gc_W (gc_S d) cX11_which 11 0 R 21 L st μ := us_ifne dX11_which_12 rfl
theorem u123_15 {d : Nat} {R : gR} {μ : gM} {l1 l2 l3 l4 : Value} {st : List Value} {x : Nat}  : gc_W (gc_S d) cX11_which 11 0 R 15 [.ref x, l1, l2, l3, l4] st μ ↔ gc_W (gc_S d) cX11_which 11 0 R 16 [.ref x, l1, l2, l3, l4] (.ref x :: st) μ := us_aload_n dX11_which_15 rfl
theorem u123_16 {d : Nat} {R : gR} {μ : gM} {L : List Value} {st : List Value}   : gc_W (gc_S d) cX11_which 11 0 R 16 L st μ ↔ gc_W (gc_S d) cX11_which 11 0 R 17 L (.int 1 :: st) μ := us_iconst dX11_which_16 ci_iconst_1
theorem u123_17 {d : Nat} {R : gR} {μ : gM} {L : List Value} {o : Nat} {a0 : Int32} (hk : gc_kd o = 11) : gc_W (gc_S d) cX11_which 11 0 R 17 L [.int a0, .ref o] μ ↔ gc_S d 75 [.ref o, .int a0] μ (fun v μ' => gc_W (gc_S d) cX11_which 11 0 R 20 L (v.toList ++ []) μ') := us_virt dX11_which_17 gn_11_88 gc_11_88_11 hk rfl rfl rfl rfl rfl
theorem u123_20 {d : Nat} {R : gR} {μ : gM} {L : List Value} {v : Int32}  : gc_W (gc_S d) cX11_which 11 0 R 20 L [.int v] μ ↔ R (some (.int v)) μ := us_iret dX11_which_20 rfl
theorem u123_21 {d : Nat} {R : gR} {μ : gM} {l1 l2 l3 l4 : Value} {st : List Value} {x : Nat}  : gc_W (gc_S d) cX11_which 11 0 R 21 [.ref x, l1, l2, l3, l4] st μ ↔ gc_W (gc_S d) cX11_which 11 0 R 22 [.ref x, l1, l2, l3, l4] (.ref x :: st) μ := us_aload_n dX11_which_21 rfl
theorem u123_22 {d : Nat} {R : gR} {μ : gM} {L : List Value} {st : List Value} {o : Nat} (hk : gc_kd o = 11) : gc_W (gc_S d) cX11_which 11 0 R 22 L (.ref o :: st) μ ↔ gc_W (gc_S d) cX11_which 11 0 R 25 L (gc_fv o 4 μ :: st) μ := us_getf dX11_which_22 gf_11_54 hk
theorem u123_25 {d : Nat} {R : gR} {μ : gM} {l0 l2 l3 l4 : Value} {st : List Value} {x : Int32}  : gc_W (gc_S d) cX11_which 11 0 R 25 [l0, .int x, l2, l3, l4] st μ ↔ gc_W (gc_S d) cX11_which 11 0 R 26 [l0, .int x, l2, l3, l4] (.int x :: st) μ := us_iload_n dX11_which_25 rfl
theorem u123_26 {d : Nat} {R : gR} {μ : gM} {L : List Value} {st : List Value} {o : Nat} {i : Int32} {q : Nat} (hk : gc_kd o = q) (hq : (Nat.ble 22 q && Nat.ble q 24) = true) : gc_W (gc_S d) cX11_which 11 0 R 26 L (.int i :: .ref o :: st) μ ↔ (vp_in i (gc_al o) ∧ gc_W (gc_S d) cX11_which 11 0 R 27 L (.ref (gc_ra o i.toNatClampNeg) :: st) μ) := us_aald dX11_which_26 hk hq
theorem u123_27 {d : Nat} {R : gR} {μ : gM} {L : List Value} {st : List Value} {o : Nat} (hk : gc_kd o = 7) : gc_W (gc_S d) cX11_which 11 0 R 27 L (.ref o :: st) μ ↔ gc_W (gc_S d) cX11_which 11 0 R 30 L (gc_fv o 2 μ :: st) μ := us_getf dX11_which_27 gf_11_235 hk
theorem u123_30 {d : Nat} {R : gR} {μ : gM} {L : List Value} {st : List Value} {x : Int32}  : gc_W (gc_S d) cX11_which 11 0 R 30 L (.int x :: st) μ ↔ if x = 0 then gc_W (gc_S d) cX11_which 11 0 R 33 L st μ else gc_W (gc_S d) cX11_which 11 0 R 39 L st μ := us_ifne dX11_which_30 rfl
theorem u123_33 {d : Nat} {R : gR} {μ : gM} {l1 l2 l3 l4 : Value} {st : List Value} {x : Nat}  : gc_W (gc_S d) cX11_which 11 0 R 33 [.ref x, l1, l2, l3, l4] st μ ↔ gc_W (gc_S d) cX11_which 11 0 R 34 [.ref x, l1, l2, l3, l4] (.ref x :: st) μ := us_aload_n dX11_which_33 rfl
theorem u123_34 {d : Nat} {R : gR} {μ : gM} {L : List Value} {st : List Value}   : gc_W (gc_S d) cX11_which 11 0 R 34 L st μ ↔ gc_W (gc_S d) cX11_which 11 0 R 35 L (.int 2 :: st) μ := us_iconst dX11_which_34 ci_iconst_2
theorem u123_35 {d : Nat} {R : gR} {μ : gM} {L : List Value} {o : Nat} {a0 : Int32} (hk : gc_kd o = 11) : gc_W (gc_S d) cX11_which 11 0 R 35 L [.int a0, .ref o] μ ↔ gc_S d 75 [.ref o, .int a0] μ (fun v μ' => gc_W (gc_S d) cX11_which 11 0 R 38 L (v.toList ++ []) μ') := us_virt dX11_which_35 gn_11_88 gc_11_88_11 hk rfl rfl rfl rfl rfl
theorem u123_38 {d : Nat} {R : gR} {μ : gM} {L : List Value} {v : Int32}  : gc_W (gc_S d) cX11_which 11 0 R 38 L [.int v] μ ↔ R (some (.int v)) μ := us_iret dX11_which_38 rfl
theorem u123_39 {d : Nat} {R : gR} {μ : gM} {L : List Value} {st : List Value}   : gc_W (gc_S d) cX11_which 11 0 R 39 L st μ ↔ gc_W (gc_S d) cX11_which 11 0 R 40 L (.int 0 :: st) μ := us_iconst dX11_which_39 ci_iconst_0
theorem u123_40 {d : Nat} {R : gR} {μ : gM} {l0 l1 l2 l3 l4 : Value} {st : List Value} {x : Int32} (hs : gc_sk l3 = true) : gc_W (gc_S d) cX11_which 11 0 R 40 [l0, l1, l2, l3, l4] (.int x :: st) μ ↔ gc_W (gc_S d) cX11_which 11 0 R 41 [l0, l1, l2, .int x, l4] st μ := us_istore_n dX11_which_40 rfl hs
theorem u123_41 {d : Nat} {R : gR} {μ : gM} {L : List Value} {st : List Value}   : gc_W (gc_S d) cX11_which 11 0 R 41 L st μ ↔ gc_W (gc_S d) cX11_which 11 0 R 42 L (.int 0 :: st) μ := us_iconst dX11_which_41 ci_iconst_0
theorem u123_42 {d : Nat} {R : gR} {μ : gM} {l0 l1 l2 l3 l4 : Value} {st : List Value} {x : Int32} (hs : gc_sk l4 = true) : gc_W (gc_S d) cX11_which 11 0 R 42 [l0, l1, l2, l3, l4] (.int x :: st) μ ↔ gc_W (gc_S d) cX11_which 11 0 R 44 [l0, l1, l2, l3, .int x] st μ := us_istore dX11_which_42 rfl hs
theorem u123_44 {d : Nat} {R : gR} {μ : gM} {l0 l1 l2 l3 : Value} {st : List Value} {x : Int32}  : gc_W (gc_S d) cX11_which 11 0 R 44 [l0, l1, l2, l3, .int x] st μ ↔ gc_W (gc_S d) cX11_which 11 0 R 46 [l0, l1, l2, l3, .int x] (.int x :: st) μ := us_iload dX11_which_44 rfl
theorem u123_46 {d : Nat} {R : gR} {μ : gM} {L : List Value} {st : List Value}   : gc_W (gc_S d) cX11_which 11 0 R 46 L st μ ↔ gc_W (gc_S d) cX11_which 11 0 R 48 L (.int 7 :: st) μ := us_bipush dX11_which_46 ci_bipush_7
theorem u123_48 {d : Nat} {R : gR} {μ : gM} {L : List Value} {st : List Value} {x y : Int32}  : gc_W (gc_S d) cX11_which 11 0 R 48 L (.int y :: .int x :: st) μ ↔ if y ≤ x then gc_W (gc_S d) cX11_which 11 0 R 85 L st μ else gc_W (gc_S d) cX11_which 11 0 R 51 L st μ := us_icge dX11_which_48 rfl
theorem u123_51 {d : Nat} {R : gR} {μ : gM} {l1 l2 l3 l4 : Value} {st : List Value} {x : Nat}  : gc_W (gc_S d) cX11_which 11 0 R 51 [.ref x, l1, l2, l3, l4] st μ ↔ gc_W (gc_S d) cX11_which 11 0 R 52 [.ref x, l1, l2, l3, l4] (.ref x :: st) μ := us_aload_n dX11_which_51 rfl
theorem u123_52 {d : Nat} {R : gR} {μ : gM} {L : List Value} {st : List Value}   : gc_W (gc_S d) cX11_which 11 0 R 52 L st μ ↔ gc_W (gc_S d) cX11_which 11 0 R 53 L (.int 2 :: st) μ := us_iconst dX11_which_52 ci_iconst_2
theorem u123_53 {d : Nat} {R : gR} {μ : gM} {l0 l1 l3 l4 : Value} {st : List Value} {x : Int32}  : gc_W (gc_S d) cX11_which 11 0 R 53 [l0, l1, .int x, l3, l4] st μ ↔ gc_W (gc_S d) cX11_which 11 0 R 54 [l0, l1, .int x, l3, l4] (.int x :: st) μ := us_iload_n dX11_which_53 rfl
theorem u123_54 {d : Nat} {R : gR} {μ : gM} {l0 l1 l2 l3 : Value} {st : List Value} {x : Int32}  : gc_W (gc_S d) cX11_which 11 0 R 54 [l0, l1, l2, l3, .int x] st μ ↔ gc_W (gc_S d) cX11_which 11 0 R 56 [l0, l1, l2, l3, .int x] (.int x :: st) μ := us_iload dX11_which_54 rfl
theorem u123_56 {d : Nat} {R : gR} {μ : gM} {L : List Value} {o : Nat} {a0 a1 a2 : Int32} (hk : gc_kd o = 11) : gc_W (gc_S d) cX11_which 11 0 R 56 L [.int a2, .int a1, .int a0, .ref o] μ ↔ gc_S d 100 [.ref o, .int a0, .int a1, .int a2] μ (fun v μ' => gc_W (gc_S d) cX11_which 11 0 R 59 L (v.toList ++ []) μ') := us_virt dX11_which_56 gn_11_238 gc_11_238_11 hk rfl rfl rfl rfl rfl
theorem u123_59 {d : Nat} {R : gR} {μ : gM} {l1 l2 l3 l4 : Value} {st : List Value} {x : Nat}  : gc_W (gc_S d) cX11_which 11 0 R 59 [.ref x, l1, l2, l3, l4] st μ ↔ gc_W (gc_S d) cX11_which 11 0 R 60 [.ref x, l1, l2, l3, l4] (.ref x :: st) μ := us_aload_n dX11_which_59 rfl
theorem u123_60 {d : Nat} {R : gR} {μ : gM} {l1 l2 l3 l4 : Value} {st : List Value} {x : Nat}  : gc_W (gc_S d) cX11_which 11 0 R 60 [.ref x, l1, l2, l3, l4] st μ ↔ gc_W (gc_S d) cX11_which 11 0 R 61 [.ref x, l1, l2, l3, l4] (.ref x :: st) μ := us_aload_n dX11_which_60 rfl
theorem u123_61 {d : Nat} {R : gR} {μ : gM} {L : List Value} {st : List Value} {o : Nat} (hk : gc_kd o = 11) : gc_W (gc_S d) cX11_which 11 0 R 61 L (.ref o :: st) μ ↔ gc_W (gc_S d) cX11_which 11 0 R 64 L (gc_fv o 4 μ :: st) μ := us_getf dX11_which_61 gf_11_54 hk
theorem u123_64 {d : Nat} {R : gR} {μ : gM} {l0 l2 l3 l4 : Value} {st : List Value} {x : Int32}  : gc_W (gc_S d) cX11_which 11 0 R 64 [l0, .int x, l2, l3, l4] st μ ↔ gc_W (gc_S d) cX11_which 11 0 R 65 [l0, .int x, l2, l3, l4] (.int x :: st) μ := us_iload_n dX11_which_64 rfl
theorem u123_65 {d : Nat} {R : gR} {μ : gM} {L : List Value} {st : List Value} {o : Nat} {i : Int32} {q : Nat} (hk : gc_kd o = q) (hq : (Nat.ble 22 q && Nat.ble q 24) = true) : gc_W (gc_S d) cX11_which 11 0 R 65 L (.int i :: .ref o :: st) μ ↔ (vp_in i (gc_al o) ∧ gc_W (gc_S d) cX11_which 11 0 R 66 L (.ref (gc_ra o i.toNatClampNeg) :: st) μ) := us_aald dX11_which_65 hk hq
theorem u123_66 {d : Nat} {R : gR} {μ : gM} {L : List Value} {o : Nat} {a0 : Nat} (hk : gc_kd o = 11) : gc_W (gc_S d) cX11_which 11 0 R 66 L [.ref a0, .ref o] μ ↔ gc_S d 122 [.ref o, .ref a0] μ (fun v μ' => gc_W (gc_S d) cX11_which 11 0 R 69 L (v.toList ++ []) μ') := us_virt dX11_which_66 gn_11_242 gc_11_242_11 hk rfl rfl rfl rfl rfl
theorem u123_69 {d : Nat} {R : gR} {μ : gM} {L : List Value} {st : List Value} {x : Int32}  : gc_W (gc_S d) cX11_which 11 0 R 69 L (.int x :: st) μ ↔ if 0 ≤ x then gc_W (gc_S d) cX11_which 11 0 R 79 L st μ else gc_W (gc_S d) cX11_which 11 0 R 72 L st μ := us_ifge dX11_which_69 rfl
theorem u123_72 {d : Nat} {R : gR} {μ : gM} {l0 l1 l2 l4 : Value} {st : List Value} {x : Int32}  : gc_W (gc_S d) cX11_which 11 0 R 72 [l0, l1, l2, .int x, l4] st μ ↔ gc_W (gc_S d) cX11_which 11 0 R 73 [l0, l1, l2, .int x, l4] (.int x :: st) μ := us_iload_n dX11_which_72 rfl
theorem u123_73 {d : Nat} {R : gR} {μ : gM} {L : List Value} {st : List Value}   : gc_W (gc_S d) cX11_which 11 0 R 73 L st μ ↔ gc_W (gc_S d) cX11_which 11 0 R 74 L (.int 1 :: st) μ := us_iconst dX11_which_73 ci_iconst_1
theorem u123_74 {d : Nat} {R : gR} {μ : gM} {l0 l1 l2 l3 : Value} {st : List Value} {x : Int32}  : gc_W (gc_S d) cX11_which 11 0 R 74 [l0, l1, l2, l3, .int x] st μ ↔ gc_W (gc_S d) cX11_which 11 0 R 76 [l0, l1, l2, l3, .int x] (.int x :: st) μ := us_iload dX11_which_74 rfl
theorem u123_76 {d : Nat} {R : gR} {μ : gM} {L : List Value} {st : List Value} {x y : Int32}  : gc_W (gc_S d) cX11_which 11 0 R 76 L (.int y :: .int x :: st) μ ↔ gc_W (gc_S d) cX11_which 11 0 R 77 L (.int (x <<< (y &&& 31)) :: st) μ := us_ishl dX11_which_76
theorem u123_77 {d : Nat} {R : gR} {μ : gM} {L : List Value} {st : List Value} {x y : Int32}  : gc_W (gc_S d) cX11_which 11 0 R 77 L (.int y :: .int x :: st) μ ↔ gc_W (gc_S d) cX11_which 11 0 R 78 L (.int (x ||| y) :: st) μ := us_ior dX11_which_77
theorem u123_78 {d : Nat} {R : gR} {μ : gM} {l0 l1 l2 l3 l4 : Value} {st : List Value} {x : Int32} (hs : gc_sk l3 = true) : gc_W (gc_S d) cX11_which 11 0 R 78 [l0, l1, l2, l3, l4] (.int x :: st) μ ↔ gc_W (gc_S d) cX11_which 11 0 R 79 [l0, l1, l2, .int x, l4] st μ := us_istore_n dX11_which_78 rfl hs
theorem u123_79 {d : Nat} {R : gR} {μ : gM} {l0 l1 l2 l3 : Value} {st : List Value} {x : Int32}  : gc_W (gc_S d) cX11_which 11 0 R 79 [l0, l1, l2, l3, .int x] st μ ↔ gc_W (gc_S d) cX11_which 11 0 R 82 [l0, l1, l2, l3, .int (x + 1)] st μ := us_iinc dX11_which_79 rfl ci_iinc_1
theorem u123_82 {d : Nat} {R : gR} {μ : gM} {L : List Value} {st : List Value}  : gc_W (gc_S d) cX11_which 11 0 R 82 L st μ ↔ gc_W (gc_S d) cX11_which 11 0 R 44 L st μ := us_goto dX11_which_82 rfl
theorem u123_85 {d : Nat} {R : gR} {μ : gM} {l0 l1 l2 l4 : Value} {st : List Value} {x : Int32}  : gc_W (gc_S d) cX11_which 11 0 R 85 [l0, l1, l2, .int x, l4] st μ ↔ gc_W (gc_S d) cX11_which 11 0 R 86 [l0, l1, l2, .int x, l4] (.int x :: st) μ := us_iload_n dX11_which_85 rfl
theorem u123_86 {d : Nat} {R : gR} {μ : gM} {L : List Value} {v : Int32}  : gc_W (gc_S d) cX11_which 11 0 R 86 L [.int v] μ ↔ R (some (.int v)) μ := us_iret dX11_which_86 rfl
theorem s123 {d : Nat} {R : gR} {μ : gM} {o : Nat} {a0 a1 : Int32} : gc_S (d + 1) 123 [.ref o, .int a0, .int a1] μ R ↔ gc_W (gc_S d) cX11_which 11 0 R 0 [.ref o, .int a0, .int a1, .retAddr 0, .retAddr 0] [] μ := us_call (gm_123) rfl rfl
theorem dX11_sorry_0 : decode cX11_sorry 0 = .ok (.iload_n 1, 1) := by decide +kernel
theorem dX11_sorry_1 : decode cX11_sorry 1 = .ok (.invokestatic 232, 3) := by decide +kernel
theorem dX11_sorry_4 : decode cX11_sorry 4 = .ok (.ifCond .eq 19, 3) := by decide +kernel
theorem dX11_sorry_7 : decode cX11_sorry 7 = .ok (.aload_n 0, 1) := by decide +kernel
theorem dX11_sorry_8 : decode cX11_sorry 8 = .ok (.iload_n 2, 1) := by decide +kernel
theorem dX11_sorry_9 : decode cX11_sorry 9 = .ok (.invokevirtual 135, 3) := by decide +kernel
theorem dX11_sorry_12 : decode cX11_sorry 12 = .ok (.ifCond .eq 11, 3) := by decide +kernel
theorem dX11_sorry_15 : decode cX11_sorry 15 = .ok (.iconst 1, 1) := by decide +kernel
theorem dX11_sorry_16 : decode cX11_sorry 16 = .ok (.iload_n 3, 1) := by decide +kernel
theorem dX11_sorry_17 : decode cX11_sorry 17 = .ok (.invokestatic 84, 3) := by decide +kernel
theorem dX11_sorry_20 : decode cX11_sorry 20 = .ok (.ifCond .ne 9, 3) := by decide +kernel
theorem dX11_sorry_23 : decode cX11_sorry 23 = .ok (.aload_n 0, 1) := by decide +kernel
theorem dX11_sorry_24 : decode cX11_sorry 24 = .ok (.iconst 1, 1) := by decide +kernel
theorem dX11_sorry_25 : decode cX11_sorry 25 = .ok (.invokevirtual 88, 3) := by decide +kernel
theorem dX11_sorry_28 : decode cX11_sorry 28 = .ok (.ireturn, 1) := by decide +kernel
theorem dX11_sorry_29 : decode cX11_sorry 29 = .ok (.aload_n 0, 1) := by decide +kernel
theorem dX11_sorry_30 : decode cX11_sorry 30 = .ok (.getfield 54, 3) := by decide +kernel
theorem dX11_sorry_33 : decode cX11_sorry 33 = .ok (.iload_n 1, 1) := by decide +kernel
theorem dX11_sorry_34 : decode cX11_sorry 34 = .ok (.aaload, 1) := by decide +kernel
theorem dX11_sorry_35 : decode cX11_sorry 35 = .ok (.getfield 235, 3) := by decide +kernel
theorem dX11_sorry_38 : decode cX11_sorry 38 = .ok (.ifCond .ne 9, 3) := by decide +kernel
theorem dX11_sorry_41 : decode cX11_sorry 41 = .ok (.aload_n 0, 1) := by decide +kernel
theorem dX11_sorry_42 : decode cX11_sorry 42 = .ok (.iconst 2, 1) := by decide +kernel
theorem dX11_sorry_43 : decode cX11_sorry 43 = .ok (.invokevirtual 88, 3) := by decide +kernel
theorem dX11_sorry_46 : decode cX11_sorry 46 = .ok (.ireturn, 1) := by decide +kernel
theorem dX11_sorry_47 : decode cX11_sorry 47 = .ok (.iconst 0, 1) := by decide +kernel
theorem dX11_sorry_48 : decode cX11_sorry 48 = .ok (.istore 4, 2) := by decide +kernel
theorem dX11_sorry_50 : decode cX11_sorry 50 = .ok (.iconst 0, 1) := by decide +kernel
theorem dX11_sorry_51 : decode cX11_sorry 51 = .ok (.istore 5, 2) := by decide +kernel
theorem dX11_sorry_53 : decode cX11_sorry 53 = .ok (.iload 5, 2) := by decide +kernel
theorem dX11_sorry_55 : decode cX11_sorry 55 = .ok (.bipush 99, 2) := by decide +kernel
theorem dX11_sorry_57 : decode cX11_sorry 57 = .ok (.if_icmp .gt 41, 3) := by decide +kernel
theorem dX11_sorry_60 : decode cX11_sorry 60 = .ok (.aload_n 0, 1) := by decide +kernel
theorem dX11_sorry_61 : decode cX11_sorry 61 = .ok (.iconst 3, 1) := by decide +kernel
theorem dX11_sorry_62 : decode cX11_sorry 62 = .ok (.iload_n 2, 1) := by decide +kernel
theorem dX11_sorry_63 : decode cX11_sorry 63 = .ok (.iload 5, 2) := by decide +kernel
theorem dX11_sorry_65 : decode cX11_sorry 65 = .ok (.invokevirtual 238, 3) := by decide +kernel
theorem dX11_sorry_68 : decode cX11_sorry 68 = .ok (.aload_n 0, 1) := by decide +kernel
theorem dX11_sorry_69 : decode cX11_sorry 69 = .ok (.aload_n 0, 1) := by decide +kernel
theorem dX11_sorry_70 : decode cX11_sorry 70 = .ok (.getfield 54, 3) := by decide +kernel
theorem dX11_sorry_73 : decode cX11_sorry 73 = .ok (.iload_n 1, 1) := by decide +kernel
theorem dX11_sorry_74 : decode cX11_sorry 74 = .ok (.aaload, 1) := by decide +kernel
theorem dX11_sorry_75 : decode cX11_sorry 75 = .ok (.invokevirtual 242, 3) := by decide +kernel
theorem dX11_sorry_78 : decode cX11_sorry 78 = .ok (.ifCond .ge 14, 3) := by decide +kernel
theorem dX11_sorry_81 : decode cX11_sorry 81 = .ok (.iload_n 3, 1) := by decide +kernel
theorem dX11_sorry_82 : decode cX11_sorry 82 = .ok (.iconst 1, 1) := by decide +kernel
theorem dX11_sorry_83 : decode cX11_sorry 83 = .ok (.if_icmp .ne 6, 3) := by decide +kernel
theorem dX11_sorry_86 : decode cX11_sorry 86 = .ok (.iload 5, 2) := by decide +kernel
theorem dX11_sorry_88 : decode cX11_sorry 88 = .ok (.ireturn, 1) := by decide +kernel
theorem dX11_sorry_89 : decode cX11_sorry 89 = .ok (.iinc 4 1, 3) := by decide +kernel
theorem dX11_sorry_92 : decode cX11_sorry 92 = .ok (.iinc 5 1, 3) := by decide +kernel
theorem dX11_sorry_95 : decode cX11_sorry 95 = .ok (.goto (-42), 3) := by decide +kernel
theorem dX11_sorry_98 : decode cX11_sorry 98 = .ok (.iload_n 3, 1) := by decide +kernel
theorem dX11_sorry_99 : decode cX11_sorry 99 = .ok (.ifCond .ne 8, 3) := by decide +kernel
theorem dX11_sorry_102 : decode cX11_sorry 102 = .ok (.iload 4, 2) := by decide +kernel
theorem dX11_sorry_104 : decode cX11_sorry 104 = .ok (.goto 8, 3) := by decide +kernel
theorem dX11_sorry_107 : decode cX11_sorry 107 = .ok (.aload_n 0, 1) := by decide +kernel
theorem dX11_sorry_108 : decode cX11_sorry 108 = .ok (.iconst 2, 1) := by decide +kernel
theorem dX11_sorry_109 : decode cX11_sorry 109 = .ok (.invokevirtual 88, 3) := by decide +kernel
theorem dX11_sorry_112 : decode cX11_sorry 112 = .ok (.ireturn, 1) := by decide +kernel
theorem u124_0 {d : Nat} {R : gR} {μ : gM} {l0 l2 l3 l4 l5 : Value} {st : List Value} {x : Int32}  : gc_W (gc_S d) cX11_sorry 11 0 R 0 [l0, .int x, l2, l3, l4, l5] st μ ↔ gc_W (gc_S d) cX11_sorry 11 0 R 1 [l0, .int x, l2, l3, l4, l5] (.int x :: st) μ := us_iload_n dX11_sorry_0 rfl
theorem u124_1 {d : Nat} {R : gR} {μ : gM} {L : List Value}  {a0 : Int32}  : gc_W (gc_S d) cX11_sorry 11 0 R 1 L [.int a0] μ ↔ gc_S d 121 [.int a0] μ (fun v μ' => gc_W (gc_S d) cX11_sorry 11 0 R 4 L (v.toList ++ []) μ') := us_stat dX11_sorry_1 gs_11_232 gne_11_232 gn_11_232 gc_11_232_97 rfl rfl rfl rfl
theorem u124_4 {d : Nat} {R : gR} {μ : gM} {L : List Value} {st : List Value} {x : Int32}  : gc_W (gc_S d) cX11_sorry 11 0 R 4 L (.int x :: st) μ ↔ if x = 0 then gc_W (gc_S d) cX11_sorry 11 0 R 23 L st μ else gc_W (gc_S d) cX11_sorry 11 0 R 7 L st μ := us_ifeq dX11_sorry_4 rfl
theorem u124_7 {d : Nat} {R : gR} {μ : gM} {l1 l2 l3 l4 l5 : Value} {st : List Value} {x : Nat}  : gc_W (gc_S d) cX11_sorry 11 0 R 7 [.ref x, l1, l2, l3, l4, l5] st μ ↔ gc_W (gc_S d) cX11_sorry 11 0 R 8 [.ref x, l1, l2, l3, l4, l5] (.ref x :: st) μ := us_aload_n dX11_sorry_7 rfl
theorem u124_8 {d : Nat} {R : gR} {μ : gM} {l0 l1 l3 l4 l5 : Value} {st : List Value} {x : Int32}  : gc_W (gc_S d) cX11_sorry 11 0 R 8 [l0, l1, .int x, l3, l4, l5] st μ ↔ gc_W (gc_S d) cX11_sorry 11 0 R 9 [l0, l1, .int x, l3, l4, l5] (.int x :: st) μ := us_iload_n dX11_sorry_8 rfl
theorem u124_9 {d : Nat} {R : gR} {μ : gM} {L : List Value} {o : Nat} {a0 : Int32} (hk : gc_kd o = 11) : gc_W (gc_S d) cX11_sorry 11 0 R 9 L [.int a0, .ref o] μ ↔ gc_S d 82 [.ref o, .int a0] μ (fun v μ' => gc_W (gc_S d) cX11_sorry 11 0 R 12 L (v.toList ++ []) μ') := us_virt dX11_sorry_9 gn_11_135 gc_11_135_11 hk rfl rfl rfl rfl rfl
theorem u124_12 {d : Nat} {R : gR} {μ : gM} {L : List Value} {st : List Value} {x : Int32}  : gc_W (gc_S d) cX11_sorry 11 0 R 12 L (.int x :: st) μ ↔ if x = 0 then gc_W (gc_S d) cX11_sorry 11 0 R 23 L st μ else gc_W (gc_S d) cX11_sorry 11 0 R 15 L st μ := us_ifeq dX11_sorry_12 rfl
theorem u124_15 {d : Nat} {R : gR} {μ : gM} {L : List Value} {st : List Value}   : gc_W (gc_S d) cX11_sorry 11 0 R 15 L st μ ↔ gc_W (gc_S d) cX11_sorry 11 0 R 16 L (.int 1 :: st) μ := us_iconst dX11_sorry_15 ci_iconst_1
theorem u124_16 {d : Nat} {R : gR} {μ : gM} {l0 l1 l2 l4 l5 : Value} {st : List Value} {x : Int32}  : gc_W (gc_S d) cX11_sorry 11 0 R 16 [l0, l1, l2, .int x, l4, l5] st μ ↔ gc_W (gc_S d) cX11_sorry 11 0 R 17 [l0, l1, l2, .int x, l4, l5] (.int x :: st) μ := us_iload_n dX11_sorry_16 rfl
theorem u124_17 {d : Nat} {R : gR} {μ : gM} {L : List Value}  {a0 a1 : Int32}  : gc_W (gc_S d) cX11_sorry 11 0 R 17 L [.int a1, .int a0] μ ↔ gc_S d 73 [.int a0, .int a1] μ (fun v μ' => gc_W (gc_S d) cX11_sorry 11 0 R 20 L (v.toList ++ []) μ') := us_stat dX11_sorry_17 gs_11_84 gne_11_84 gn_11_84 gc_11_84_97 rfl rfl rfl rfl
theorem u124_20 {d : Nat} {R : gR} {μ : gM} {L : List Value} {st : List Value} {x : Int32}  : gc_W (gc_S d) cX11_sorry 11 0 R 20 L (.int x :: st) μ ↔ if x = 0 then gc_W (gc_S d) cX11_sorry 11 0 R 23 L st μ else gc_W (gc_S d) cX11_sorry 11 0 R 29 L st μ := us_ifne dX11_sorry_20 rfl
theorem u124_23 {d : Nat} {R : gR} {μ : gM} {l1 l2 l3 l4 l5 : Value} {st : List Value} {x : Nat}  : gc_W (gc_S d) cX11_sorry 11 0 R 23 [.ref x, l1, l2, l3, l4, l5] st μ ↔ gc_W (gc_S d) cX11_sorry 11 0 R 24 [.ref x, l1, l2, l3, l4, l5] (.ref x :: st) μ := us_aload_n dX11_sorry_23 rfl
theorem u124_24 {d : Nat} {R : gR} {μ : gM} {L : List Value} {st : List Value}   : gc_W (gc_S d) cX11_sorry 11 0 R 24 L st μ ↔ gc_W (gc_S d) cX11_sorry 11 0 R 25 L (.int 1 :: st) μ := us_iconst dX11_sorry_24 ci_iconst_1
theorem u124_25 {d : Nat} {R : gR} {μ : gM} {L : List Value} {o : Nat} {a0 : Int32} (hk : gc_kd o = 11) : gc_W (gc_S d) cX11_sorry 11 0 R 25 L [.int a0, .ref o] μ ↔ gc_S d 75 [.ref o, .int a0] μ (fun v μ' => gc_W (gc_S d) cX11_sorry 11 0 R 28 L (v.toList ++ []) μ') := us_virt dX11_sorry_25 gn_11_88 gc_11_88_11 hk rfl rfl rfl rfl rfl
theorem u124_28 {d : Nat} {R : gR} {μ : gM} {L : List Value} {v : Int32}  : gc_W (gc_S d) cX11_sorry 11 0 R 28 L [.int v] μ ↔ R (some (.int v)) μ := us_iret dX11_sorry_28 rfl
theorem u124_29 {d : Nat} {R : gR} {μ : gM} {l1 l2 l3 l4 l5 : Value} {st : List Value} {x : Nat}  : gc_W (gc_S d) cX11_sorry 11 0 R 29 [.ref x, l1, l2, l3, l4, l5] st μ ↔ gc_W (gc_S d) cX11_sorry 11 0 R 30 [.ref x, l1, l2, l3, l4, l5] (.ref x :: st) μ := us_aload_n dX11_sorry_29 rfl
theorem u124_30 {d : Nat} {R : gR} {μ : gM} {L : List Value} {st : List Value} {o : Nat} (hk : gc_kd o = 11) : gc_W (gc_S d) cX11_sorry 11 0 R 30 L (.ref o :: st) μ ↔ gc_W (gc_S d) cX11_sorry 11 0 R 33 L (gc_fv o 4 μ :: st) μ := us_getf dX11_sorry_30 gf_11_54 hk
theorem u124_33 {d : Nat} {R : gR} {μ : gM} {l0 l2 l3 l4 l5 : Value} {st : List Value} {x : Int32}  : gc_W (gc_S d) cX11_sorry 11 0 R 33 [l0, .int x, l2, l3, l4, l5] st μ ↔ gc_W (gc_S d) cX11_sorry 11 0 R 34 [l0, .int x, l2, l3, l4, l5] (.int x :: st) μ := us_iload_n dX11_sorry_33 rfl
theorem u124_34 {d : Nat} {R : gR} {μ : gM} {L : List Value} {st : List Value} {o : Nat} {i : Int32} {q : Nat} (hk : gc_kd o = q) (hq : (Nat.ble 22 q && Nat.ble q 24) = true) : gc_W (gc_S d) cX11_sorry 11 0 R 34 L (.int i :: .ref o :: st) μ ↔ (vp_in i (gc_al o) ∧ gc_W (gc_S d) cX11_sorry 11 0 R 35 L (.ref (gc_ra o i.toNatClampNeg) :: st) μ) := us_aald dX11_sorry_34 hk hq
theorem u124_35 {d : Nat} {R : gR} {μ : gM} {L : List Value} {st : List Value} {o : Nat} (hk : gc_kd o = 7) : gc_W (gc_S d) cX11_sorry 11 0 R 35 L (.ref o :: st) μ ↔ gc_W (gc_S d) cX11_sorry 11 0 R 38 L (gc_fv o 2 μ :: st) μ := us_getf dX11_sorry_35 gf_11_235 hk
theorem u124_38 {d : Nat} {R : gR} {μ : gM} {L : List Value} {st : List Value} {x : Int32}  : gc_W (gc_S d) cX11_sorry 11 0 R 38 L (.int x :: st) μ ↔ if x = 0 then gc_W (gc_S d) cX11_sorry 11 0 R 41 L st μ else gc_W (gc_S d) cX11_sorry 11 0 R 47 L st μ := us_ifne dX11_sorry_38 rfl
theorem u124_41 {d : Nat} {R : gR} {μ : gM} {l1 l2 l3 l4 l5 : Value} {st : List Value} {x : Nat}  : gc_W (gc_S d) cX11_sorry 11 0 R 41 [.ref x, l1, l2, l3, l4, l5] st μ ↔ gc_W (gc_S d) cX11_sorry 11 0 R 42 [.ref x, l1, l2, l3, l4, l5] (.ref x :: st) μ := us_aload_n dX11_sorry_41 rfl
theorem u124_42 {d : Nat} {R : gR} {μ : gM} {L : List Value} {st : List Value}   : gc_W (gc_S d) cX11_sorry 11 0 R 42 L st μ ↔ gc_W (gc_S d) cX11_sorry 11 0 R 43 L (.int 2 :: st) μ := us_iconst dX11_sorry_42 ci_iconst_2
theorem u124_43 {d : Nat} {R : gR} {μ : gM} {L : List Value} {o : Nat} {a0 : Int32} (hk : gc_kd o = 11) : gc_W (gc_S d) cX11_sorry 11 0 R 43 L [.int a0, .ref o] μ ↔ gc_S d 75 [.ref o, .int a0] μ (fun v μ' => gc_W (gc_S d) cX11_sorry 11 0 R 46 L (v.toList ++ []) μ') := us_virt dX11_sorry_43 gn_11_88 gc_11_88_11 hk rfl rfl rfl rfl rfl
theorem u124_46 {d : Nat} {R : gR} {μ : gM} {L : List Value} {v : Int32}  : gc_W (gc_S d) cX11_sorry 11 0 R 46 L [.int v] μ ↔ R (some (.int v)) μ := us_iret dX11_sorry_46 rfl
theorem u124_47 {d : Nat} {R : gR} {μ : gM} {L : List Value} {st : List Value}   : gc_W (gc_S d) cX11_sorry 11 0 R 47 L st μ ↔ gc_W (gc_S d) cX11_sorry 11 0 R 48 L (.int 0 :: st) μ := us_iconst dX11_sorry_47 ci_iconst_0
theorem u124_48 {d : Nat} {R : gR} {μ : gM} {l0 l1 l2 l3 l4 l5 : Value} {st : List Value} {x : Int32} (hs : gc_sk l4 = true) : gc_W (gc_S d) cX11_sorry 11 0 R 48 [l0, l1, l2, l3, l4, l5] (.int x :: st) μ ↔ gc_W (gc_S d) cX11_sorry 11 0 R 50 [l0, l1, l2, l3, .int x, l5] st μ := us_istore dX11_sorry_48 rfl hs
theorem u124_50 {d : Nat} {R : gR} {μ : gM} {L : List Value} {st : List Value}   : gc_W (gc_S d) cX11_sorry 11 0 R 50 L st μ ↔ gc_W (gc_S d) cX11_sorry 11 0 R 51 L (.int 0 :: st) μ := us_iconst dX11_sorry_50 ci_iconst_0
theorem u124_51 {d : Nat} {R : gR} {μ : gM} {l0 l1 l2 l3 l4 l5 : Value} {st : List Value} {x : Int32} (hs : gc_sk l5 = true) : gc_W (gc_S d) cX11_sorry 11 0 R 51 [l0, l1, l2, l3, l4, l5] (.int x :: st) μ ↔ gc_W (gc_S d) cX11_sorry 11 0 R 53 [l0, l1, l2, l3, l4, .int x] st μ := us_istore dX11_sorry_51 rfl hs
theorem u124_53 {d : Nat} {R : gR} {μ : gM} {l0 l1 l2 l3 l4 : Value} {st : List Value} {x : Int32}  : gc_W (gc_S d) cX11_sorry 11 0 R 53 [l0, l1, l2, l3, l4, .int x] st μ ↔ gc_W (gc_S d) cX11_sorry 11 0 R 55 [l0, l1, l2, l3, l4, .int x] (.int x :: st) μ := us_iload dX11_sorry_53 rfl
theorem u124_55 {d : Nat} {R : gR} {μ : gM} {L : List Value} {st : List Value}   : gc_W (gc_S d) cX11_sorry 11 0 R 55 L st μ ↔ gc_W (gc_S d) cX11_sorry 11 0 R 57 L (.int 99 :: st) μ := us_bipush dX11_sorry_55 ci_bipush_99
theorem u124_57 {d : Nat} {R : gR} {μ : gM} {L : List Value} {st : List Value} {x y : Int32}  : gc_W (gc_S d) cX11_sorry 11 0 R 57 L (.int y :: .int x :: st) μ ↔ if y < x then gc_W (gc_S d) cX11_sorry 11 0 R 98 L st μ else gc_W (gc_S d) cX11_sorry 11 0 R 60 L st μ := us_icgt dX11_sorry_57 rfl
theorem u124_60 {d : Nat} {R : gR} {μ : gM} {l1 l2 l3 l4 l5 : Value} {st : List Value} {x : Nat}  : gc_W (gc_S d) cX11_sorry 11 0 R 60 [.ref x, l1, l2, l3, l4, l5] st μ ↔ gc_W (gc_S d) cX11_sorry 11 0 R 61 [.ref x, l1, l2, l3, l4, l5] (.ref x :: st) μ := us_aload_n dX11_sorry_60 rfl
theorem u124_61 {d : Nat} {R : gR} {μ : gM} {L : List Value} {st : List Value}   : gc_W (gc_S d) cX11_sorry 11 0 R 61 L st μ ↔ gc_W (gc_S d) cX11_sorry 11 0 R 62 L (.int 3 :: st) μ := us_iconst dX11_sorry_61 ci_iconst_3
theorem u124_62 {d : Nat} {R : gR} {μ : gM} {l0 l1 l3 l4 l5 : Value} {st : List Value} {x : Int32}  : gc_W (gc_S d) cX11_sorry 11 0 R 62 [l0, l1, .int x, l3, l4, l5] st μ ↔ gc_W (gc_S d) cX11_sorry 11 0 R 63 [l0, l1, .int x, l3, l4, l5] (.int x :: st) μ := us_iload_n dX11_sorry_62 rfl
theorem u124_63 {d : Nat} {R : gR} {μ : gM} {l0 l1 l2 l3 l4 : Value} {st : List Value} {x : Int32}  : gc_W (gc_S d) cX11_sorry 11 0 R 63 [l0, l1, l2, l3, l4, .int x] st μ ↔ gc_W (gc_S d) cX11_sorry 11 0 R 65 [l0, l1, l2, l3, l4, .int x] (.int x :: st) μ := us_iload dX11_sorry_63 rfl
theorem u124_65 {d : Nat} {R : gR} {μ : gM} {L : List Value} {o : Nat} {a0 a1 a2 : Int32} (hk : gc_kd o = 11) : gc_W (gc_S d) cX11_sorry 11 0 R 65 L [.int a2, .int a1, .int a0, .ref o] μ ↔ gc_S d 100 [.ref o, .int a0, .int a1, .int a2] μ (fun v μ' => gc_W (gc_S d) cX11_sorry 11 0 R 68 L (v.toList ++ []) μ') := us_virt dX11_sorry_65 gn_11_238 gc_11_238_11 hk rfl rfl rfl rfl rfl
theorem u124_68 {d : Nat} {R : gR} {μ : gM} {l1 l2 l3 l4 l5 : Value} {st : List Value} {x : Nat}  : gc_W (gc_S d) cX11_sorry 11 0 R 68 [.ref x, l1, l2, l3, l4, l5] st μ ↔ gc_W (gc_S d) cX11_sorry 11 0 R 69 [.ref x, l1, l2, l3, l4, l5] (.ref x :: st) μ := us_aload_n dX11_sorry_68 rfl
theorem u124_69 {d : Nat} {R : gR} {μ : gM} {l1 l2 l3 l4 l5 : Value} {st : List Value} {x : Nat}  : gc_W (gc_S d) cX11_sorry 11 0 R 69 [.ref x, l1, l2, l3, l4, l5] st μ ↔ gc_W (gc_S d) cX11_sorry 11 0 R 70 [.ref x, l1, l2, l3, l4, l5] (.ref x :: st) μ := us_aload_n dX11_sorry_69 rfl
theorem u124_70 {d : Nat} {R : gR} {μ : gM} {L : List Value} {st : List Value} {o : Nat} (hk : gc_kd o = 11) : gc_W (gc_S d) cX11_sorry 11 0 R 70 L (.ref o :: st) μ ↔ gc_W (gc_S d) cX11_sorry 11 0 R 73 L (gc_fv o 4 μ :: st) μ := us_getf dX11_sorry_70 gf_11_54 hk
theorem u124_73 {d : Nat} {R : gR} {μ : gM} {l0 l2 l3 l4 l5 : Value} {st : List Value} {x : Int32}  : gc_W (gc_S d) cX11_sorry 11 0 R 73 [l0, .int x, l2, l3, l4, l5] st μ ↔ gc_W (gc_S d) cX11_sorry 11 0 R 74 [l0, .int x, l2, l3, l4, l5] (.int x :: st) μ := us_iload_n dX11_sorry_73 rfl
theorem u124_74 {d : Nat} {R : gR} {μ : gM} {L : List Value} {st : List Value} {o : Nat} {i : Int32} {q : Nat} (hk : gc_kd o = q) (hq : (Nat.ble 22 q && Nat.ble q 24) = true) : gc_W (gc_S d) cX11_sorry 11 0 R 74 L (.int i :: .ref o :: st) μ ↔ (vp_in i (gc_al o) ∧ gc_W (gc_S d) cX11_sorry 11 0 R 75 L (.ref (gc_ra o i.toNatClampNeg) :: st) μ) := us_aald dX11_sorry_74 hk hq
theorem u124_75 {d : Nat} {R : gR} {μ : gM} {L : List Value} {o : Nat} {a0 : Nat} (hk : gc_kd o = 11) : gc_W (gc_S d) cX11_sorry 11 0 R 75 L [.ref a0, .ref o] μ ↔ gc_S d 122 [.ref o, .ref a0] μ (fun v μ' => gc_W (gc_S d) cX11_sorry 11 0 R 78 L (v.toList ++ []) μ') := us_virt dX11_sorry_75 gn_11_242 gc_11_242_11 hk rfl rfl rfl rfl rfl
theorem u124_78 {d : Nat} {R : gR} {μ : gM} {L : List Value} {st : List Value} {x : Int32}  : gc_W (gc_S d) cX11_sorry 11 0 R 78 L (.int x :: st) μ ↔ if 0 ≤ x then gc_W (gc_S d) cX11_sorry 11 0 R 92 L st μ else gc_W (gc_S d) cX11_sorry 11 0 R 81 L st μ := us_ifge dX11_sorry_78 rfl
theorem u124_81 {d : Nat} {R : gR} {μ : gM} {l0 l1 l2 l4 l5 : Value} {st : List Value} {x : Int32}  : gc_W (gc_S d) cX11_sorry 11 0 R 81 [l0, l1, l2, .int x, l4, l5] st μ ↔ gc_W (gc_S d) cX11_sorry 11 0 R 82 [l0, l1, l2, .int x, l4, l5] (.int x :: st) μ := us_iload_n dX11_sorry_81 rfl
theorem u124_82 {d : Nat} {R : gR} {μ : gM} {L : List Value} {st : List Value}   : gc_W (gc_S d) cX11_sorry 11 0 R 82 L st μ ↔ gc_W (gc_S d) cX11_sorry 11 0 R 83 L (.int 1 :: st) μ := us_iconst dX11_sorry_82 ci_iconst_1
theorem u124_83 {d : Nat} {R : gR} {μ : gM} {L : List Value} {st : List Value} {x y : Int32}  : gc_W (gc_S d) cX11_sorry 11 0 R 83 L (.int y :: .int x :: st) μ ↔ if x = y then gc_W (gc_S d) cX11_sorry 11 0 R 86 L st μ else gc_W (gc_S d) cX11_sorry 11 0 R 89 L st μ := us_icne dX11_sorry_83 rfl
theorem u124_86 {d : Nat} {R : gR} {μ : gM} {l0 l1 l2 l3 l4 : Value} {st : List Value} {x : Int32}  : gc_W (gc_S d) cX11_sorry 11 0 R 86 [l0, l1, l2, l3, l4, .int x] st μ ↔ gc_W (gc_S d) cX11_sorry 11 0 R 88 [l0, l1, l2, l3, l4, .int x] (.int x :: st) μ := us_iload dX11_sorry_86 rfl
theorem u124_88 {d : Nat} {R : gR} {μ : gM} {L : List Value} {v : Int32}  : gc_W (gc_S d) cX11_sorry 11 0 R 88 L [.int v] μ ↔ R (some (.int v)) μ := us_iret dX11_sorry_88 rfl
theorem u124_89 {d : Nat} {R : gR} {μ : gM} {l0 l1 l2 l3 l5 : Value} {st : List Value} {x : Int32}  : gc_W (gc_S d) cX11_sorry 11 0 R 89 [l0, l1, l2, l3, .int x, l5] st μ ↔ gc_W (gc_S d) cX11_sorry 11 0 R 92 [l0, l1, l2, l3, .int (x + 1), l5] st μ := us_iinc dX11_sorry_89 rfl ci_iinc_1
theorem u124_92 {d : Nat} {R : gR} {μ : gM} {l0 l1 l2 l3 l4 : Value} {st : List Value} {x : Int32}  : gc_W (gc_S d) cX11_sorry 11 0 R 92 [l0, l1, l2, l3, l4, .int x] st μ ↔ gc_W (gc_S d) cX11_sorry 11 0 R 95 [l0, l1, l2, l3, l4, .int (x + 1)] st μ := us_iinc dX11_sorry_92 rfl ci_iinc_1
theorem u124_95 {d : Nat} {R : gR} {μ : gM} {L : List Value} {st : List Value}  : gc_W (gc_S d) cX11_sorry 11 0 R 95 L st μ ↔ gc_W (gc_S d) cX11_sorry 11 0 R 53 L st μ := us_goto dX11_sorry_95 rfl
theorem u124_98 {d : Nat} {R : gR} {μ : gM} {l0 l1 l2 l4 l5 : Value} {st : List Value} {x : Int32}  : gc_W (gc_S d) cX11_sorry 11 0 R 98 [l0, l1, l2, .int x, l4, l5] st μ ↔ gc_W (gc_S d) cX11_sorry 11 0 R 99 [l0, l1, l2, .int x, l4, l5] (.int x :: st) μ := us_iload_n dX11_sorry_98 rfl
theorem u124_99 {d : Nat} {R : gR} {μ : gM} {L : List Value} {st : List Value} {x : Int32}  : gc_W (gc_S d) cX11_sorry 11 0 R 99 L (.int x :: st) μ ↔ if x = 0 then gc_W (gc_S d) cX11_sorry 11 0 R 102 L st μ else gc_W (gc_S d) cX11_sorry 11 0 R 107 L st μ := us_ifne dX11_sorry_99 rfl
theorem u124_102 {d : Nat} {R : gR} {μ : gM} {l0 l1 l2 l3 l5 : Value} {st : List Value} {x : Int32}  : gc_W (gc_S d) cX11_sorry 11 0 R 102 [l0, l1, l2, l3, .int x, l5] st μ ↔ gc_W (gc_S d) cX11_sorry 11 0 R 104 [l0, l1, l2, l3, .int x, l5] (.int x :: st) μ := us_iload dX11_sorry_102 rfl
theorem u124_104 {d : Nat} {R : gR} {μ : gM} {L : List Value} {st : List Value}  : gc_W (gc_S d) cX11_sorry 11 0 R 104 L st μ ↔ gc_W (gc_S d) cX11_sorry 11 0 R 112 L st μ := us_goto dX11_sorry_104 rfl
theorem u124_107 {d : Nat} {R : gR} {μ : gM} {l1 l2 l3 l4 l5 : Value} {st : List Value} {x : Nat}  : gc_W (gc_S d) cX11_sorry 11 0 R 107 [.ref x, l1, l2, l3, l4, l5] st μ ↔ gc_W (gc_S d) cX11_sorry 11 0 R 108 [.ref x, l1, l2, l3, l4, l5] (.ref x :: st) μ := us_aload_n dX11_sorry_107 rfl
theorem u124_108 {d : Nat} {R : gR} {μ : gM} {L : List Value} {st : List Value}   : gc_W (gc_S d) cX11_sorry 11 0 R 108 L st μ ↔ gc_W (gc_S d) cX11_sorry 11 0 R 109 L (.int 2 :: st) μ := us_iconst dX11_sorry_108 ci_iconst_2
theorem u124_109 {d : Nat} {R : gR} {μ : gM} {L : List Value} {o : Nat} {a0 : Int32} (hk : gc_kd o = 11) : gc_W (gc_S d) cX11_sorry 11 0 R 109 L [.int a0, .ref o] μ ↔ gc_S d 75 [.ref o, .int a0] μ (fun v μ' => gc_W (gc_S d) cX11_sorry 11 0 R 112 L (v.toList ++ []) μ') := us_virt dX11_sorry_109 gn_11_88 gc_11_88_11 hk rfl rfl rfl rfl rfl
theorem u124_112 {d : Nat} {R : gR} {μ : gM} {L : List Value} {v : Int32}  : gc_W (gc_S d) cX11_sorry 11 0 R 112 L [.int v] μ ↔ R (some (.int v)) μ := us_iret dX11_sorry_112 rfl
theorem s124 {d : Nat} {R : gR} {μ : gM} {o : Nat} {a0 a1 a2 : Int32} : gc_S (d + 1) 124 [.ref o, .int a0, .int a1, .int a2] μ R ↔ gc_W (gc_S d) cX11_sorry 11 0 R 0 [.ref o, .int a0, .int a1, .int a2, .retAddr 0, .retAddr 0] [] μ := us_call (gm_124) rfl rfl
theorem dX11_odds_0 : decode cX11_odds 0 = .ok (.bipush 30, 2) := by decide +kernel
theorem dX11_odds_2 : decode cX11_odds 2 = .ok (.iload_n 1, 1) := by decide +kernel
theorem dX11_odds_3 : decode cX11_odds 3 = .ok (.invokestatic 84, 3) := by decide +kernel
theorem dX11_odds_6 : decode cX11_odds 6 = .ok (.ifCond .eq 21, 3) := by decide +kernel
theorem dX11_odds_9 : decode cX11_odds 9 = .ok (.sipush 1584, 3) := by decide +kernel
theorem dX11_odds_12 : decode cX11_odds 12 = .ok (.iload_n 2, 1) := by decide +kernel
theorem dX11_odds_13 : decode cX11_odds 13 = .ok (.invokestatic 84, 3) := by decide +kernel
theorem dX11_odds_16 : decode cX11_odds 16 = .ok (.ifCond .eq 11, 3) := by decide +kernel
theorem dX11_odds_19 : decode cX11_odds 19 = .ok (.iconst 1, 1) := by decide +kernel
theorem dX11_odds_20 : decode cX11_odds 20 = .ok (.iload_n 3, 1) := by decide +kernel
theorem dX11_odds_21 : decode cX11_odds 21 = .ok (.invokestatic 84, 3) := by decide +kernel
theorem dX11_odds_24 : decode cX11_odds 24 = .ok (.ifCond .ne 9, 3) := by decide +kernel
theorem dX11_odds_27 : decode cX11_odds 27 = .ok (.aload_n 0, 1) := by decide +kernel
theorem dX11_odds_28 : decode cX11_odds 28 = .ok (.iconst 1, 1) := by decide +kernel
theorem dX11_odds_29 : decode cX11_odds 29 = .ok (.invokevirtual 88, 3) := by decide +kernel
theorem dX11_odds_32 : decode cX11_odds 32 = .ok (.ireturn, 1) := by decide +kernel
theorem dX11_odds_33 : decode cX11_odds 33 = .ok (.iconst 0, 1) := by decide +kernel
theorem dX11_odds_34 : decode cX11_odds 34 = .ok (.istore 4, 2) := by decide +kernel
theorem dX11_odds_36 : decode cX11_odds 36 = .ok (.iconst 0, 1) := by decide +kernel
theorem dX11_odds_37 : decode cX11_odds 37 = .ok (.istore 5, 2) := by decide +kernel
theorem dX11_odds_39 : decode cX11_odds 39 = .ok (.iload 5, 2) := by decide +kernel
theorem dX11_odds_41 : decode cX11_odds 41 = .ok (.bipush 8, 2) := by decide +kernel
theorem dX11_odds_43 : decode cX11_odds 43 = .ok (.if_icmp .ge 62, 3) := by decide +kernel
theorem dX11_odds_46 : decode cX11_odds 46 = .ok (.aload_n 0, 1) := by decide +kernel
theorem dX11_odds_47 : decode cX11_odds 47 = .ok (.iconst 1, 1) := by decide +kernel
theorem dX11_odds_48 : decode cX11_odds 48 = .ok (.aload_n 0, 1) := by decide +kernel
theorem dX11_odds_49 : decode cX11_odds 49 = .ok (.getfield 38, 3) := by decide +kernel
theorem dX11_odds_52 : decode cX11_odds 52 = .ok (.getfield 149, 3) := by decide +kernel
theorem dX11_odds_55 : decode cX11_odds 55 = .ok (.bipush 6, 2) := by decide +kernel
theorem dX11_odds_57 : decode cX11_odds 57 = .ok (.irem, 1) := by decide +kernel
theorem dX11_odds_58 : decode cX11_odds 58 = .ok (.iload 5, 2) := by decide +kernel
theorem dX11_odds_60 : decode cX11_odds 60 = .ok (.invokevirtual 238, 3) := by decide +kernel
theorem dX11_odds_63 : decode cX11_odds 63 = .ok (.iconst 0, 1) := by decide +kernel
theorem dX11_odds_64 : decode cX11_odds 64 = .ok (.istore 6, 2) := by decide +kernel
theorem dX11_odds_66 : decode cX11_odds 66 = .ok (.iload 6, 2) := by decide +kernel
theorem dX11_odds_68 : decode cX11_odds 68 = .ok (.iload_n 1, 1) := by decide +kernel
theorem dX11_odds_69 : decode cX11_odds 69 = .ok (.if_icmp .ge 16, 3) := by decide +kernel
theorem dX11_odds_72 : decode cX11_odds 72 = .ok (.aload_n 0, 1) := by decide +kernel
theorem dX11_odds_73 : decode cX11_odds 73 = .ok (.getfield 42, 3) := by decide +kernel
theorem dX11_odds_76 : decode cX11_odds 76 = .ok (.invokevirtual 189, 3) := by decide +kernel
theorem dX11_odds_79 : decode cX11_odds 79 = .ok (.iinc 6 1, 3) := by decide +kernel
theorem dX11_odds_82 : decode cX11_odds 82 = .ok (.goto (-16), 3) := by decide +kernel
theorem dX11_odds_85 : decode cX11_odds 85 = .ok (.aload_n 0, 1) := by decide +kernel
theorem dX11_odds_86 : decode cX11_odds 86 = .ok (.getfield 42, 3) := by decide +kernel
theorem dX11_odds_89 : decode cX11_odds 89 = .ok (.invokevirtual 192, 3) := by decide +kernel
theorem dX11_odds_92 : decode cX11_odds 92 = .ok (.iload_n 2, 1) := by decide +kernel
theorem dX11_odds_93 : decode cX11_odds 93 = .ok (.if_icmp .gt 6, 3) := by decide +kernel
theorem dX11_odds_96 : decode cX11_odds 96 = .ok (.iinc 4 1, 3) := by decide +kernel
theorem dX11_odds_99 : decode cX11_odds 99 = .ok (.iinc 5 1, 3) := by decide +kernel
theorem dX11_odds_102 : decode cX11_odds 102 = .ok (.goto (-63), 3) := by decide +kernel
theorem dX11_odds_105 : decode cX11_odds 105 = .ok (.iload 4, 2) := by decide +kernel
theorem dX11_odds_107 : decode cX11_odds 107 = .ok (.bipush 8, 2) := by decide +kernel
theorem dX11_odds_109 : decode cX11_odds 109 = .ok (.ior, 1) := by decide +kernel
theorem dX11_odds_110 : decode cX11_odds 110 = .ok (.iload 4, 2) := by decide +kernel
theorem dX11_odds_112 : decode cX11_odds 112 = .ok (.bipush 8, 2) := by decide +kernel
theorem dX11_odds_114 : decode cX11_odds 114 = .ok (.ior, 1) := by decide +kernel
theorem dX11_odds_115 : decode cX11_odds 115 = .ok (.ineg, 1) := by decide +kernel
theorem dX11_odds_116 : decode cX11_odds 116 = .ok (.iand, 1) := by decide +kernel
theorem dX11_odds_117 : decode cX11_odds 117 = .ok (.istore 5, 2) := by decide +kernel
theorem dX11_odds_119 : decode cX11_odds 119 = .ok (.iload_n 3, 1) := by decide +kernel
theorem dX11_odds_120 : decode cX11_odds 120 = .ok (.ifCond .ne 8, 3) := by decide +kernel
theorem dX11_odds_123 : decode cX11_odds 123 = .ok (.iload 4, 2) := by decide +kernel
theorem dX11_odds_125 : decode cX11_odds 125 = .ok (.goto 5, 3) := by decide +kernel
theorem dX11_odds_128 : decode cX11_odds 128 = .ok (.bipush 8, 2) := by decide +kernel
theorem dX11_odds_130 : decode cX11_odds 130 = .ok (.iload 5, 2) := by decide +kernel
theorem dX11_odds_132 : decode cX11_odds 132 = .ok (.idiv, 1) := by decide +kernel
theorem dX11_odds_133 : decode cX11_odds 133 = .ok (.ireturn, 1) := by decide +kernel
theorem u125_0 {d : Nat} {R : gR} {μ : gM} {L : List Value} {st : List Value}   : gc_W (gc_S d) cX11_odds 11 0 R 0 L st μ ↔ gc_W (gc_S d) cX11_odds 11 0 R 2 L (.int 30 :: st) μ := us_bipush dX11_odds_0 ci_bipush_30
theorem u125_2 {d : Nat} {R : gR} {μ : gM} {l0 l2 l3 l4 l5 l6 : Value} {st : List Value} {x : Int32}  : gc_W (gc_S d) cX11_odds 11 0 R 2 [l0, .int x, l2, l3, l4, l5, l6] st μ ↔ gc_W (gc_S d) cX11_odds 11 0 R 3 [l0, .int x, l2, l3, l4, l5, l6] (.int x :: st) μ := us_iload_n dX11_odds_2 rfl
theorem u125_3 {d : Nat} {R : gR} {μ : gM} {L : List Value}  {a0 a1 : Int32}  : gc_W (gc_S d) cX11_odds 11 0 R 3 L [.int a1, .int a0] μ ↔ gc_S d 73 [.int a0, .int a1] μ (fun v μ' => gc_W (gc_S d) cX11_odds 11 0 R 6 L (v.toList ++ []) μ') := us_stat dX11_odds_3 gs_11_84 gne_11_84 gn_11_84 gc_11_84_97 rfl rfl rfl rfl
theorem u125_6 {d : Nat} {R : gR} {μ : gM} {L : List Value} {st : List Value} {x : Int32}  : gc_W (gc_S d) cX11_odds 11 0 R 6 L (.int x :: st) μ ↔ if x = 0 then gc_W (gc_S d) cX11_odds 11 0 R 27 L st μ else gc_W (gc_S d) cX11_odds 11 0 R 9 L st μ := us_ifeq dX11_odds_6 rfl
theorem u125_9 {d : Nat} {R : gR} {μ : gM} {L : List Value} {st : List Value}   : gc_W (gc_S d) cX11_odds 11 0 R 9 L st μ ↔ gc_W (gc_S d) cX11_odds 11 0 R 12 L (.int 1584 :: st) μ := us_sipush dX11_odds_9 ci_sipush_1584
theorem u125_12 {d : Nat} {R : gR} {μ : gM} {l0 l1 l3 l4 l5 l6 : Value} {st : List Value} {x : Int32}  : gc_W (gc_S d) cX11_odds 11 0 R 12 [l0, l1, .int x, l3, l4, l5, l6] st μ ↔ gc_W (gc_S d) cX11_odds 11 0 R 13 [l0, l1, .int x, l3, l4, l5, l6] (.int x :: st) μ := us_iload_n dX11_odds_12 rfl
theorem u125_13 {d : Nat} {R : gR} {μ : gM} {L : List Value}  {a0 a1 : Int32}  : gc_W (gc_S d) cX11_odds 11 0 R 13 L [.int a1, .int a0] μ ↔ gc_S d 73 [.int a0, .int a1] μ (fun v μ' => gc_W (gc_S d) cX11_odds 11 0 R 16 L (v.toList ++ []) μ') := us_stat dX11_odds_13 gs_11_84 gne_11_84 gn_11_84 gc_11_84_97 rfl rfl rfl rfl
theorem u125_16 {d : Nat} {R : gR} {μ : gM} {L : List Value} {st : List Value} {x : Int32}  : gc_W (gc_S d) cX11_odds 11 0 R 16 L (.int x :: st) μ ↔ if x = 0 then gc_W (gc_S d) cX11_odds 11 0 R 27 L st μ else gc_W (gc_S d) cX11_odds 11 0 R 19 L st μ := us_ifeq dX11_odds_16 rfl
theorem u125_19 {d : Nat} {R : gR} {μ : gM} {L : List Value} {st : List Value}   : gc_W (gc_S d) cX11_odds 11 0 R 19 L st μ ↔ gc_W (gc_S d) cX11_odds 11 0 R 20 L (.int 1 :: st) μ := us_iconst dX11_odds_19 ci_iconst_1
theorem u125_20 {d : Nat} {R : gR} {μ : gM} {l0 l1 l2 l4 l5 l6 : Value} {st : List Value} {x : Int32}  : gc_W (gc_S d) cX11_odds 11 0 R 20 [l0, l1, l2, .int x, l4, l5, l6] st μ ↔ gc_W (gc_S d) cX11_odds 11 0 R 21 [l0, l1, l2, .int x, l4, l5, l6] (.int x :: st) μ := us_iload_n dX11_odds_20 rfl
theorem u125_21 {d : Nat} {R : gR} {μ : gM} {L : List Value}  {a0 a1 : Int32}  : gc_W (gc_S d) cX11_odds 11 0 R 21 L [.int a1, .int a0] μ ↔ gc_S d 73 [.int a0, .int a1] μ (fun v μ' => gc_W (gc_S d) cX11_odds 11 0 R 24 L (v.toList ++ []) μ') := us_stat dX11_odds_21 gs_11_84 gne_11_84 gn_11_84 gc_11_84_97 rfl rfl rfl rfl
theorem u125_24 {d : Nat} {R : gR} {μ : gM} {L : List Value} {st : List Value} {x : Int32}  : gc_W (gc_S d) cX11_odds 11 0 R 24 L (.int x :: st) μ ↔ if x = 0 then gc_W (gc_S d) cX11_odds 11 0 R 27 L st μ else gc_W (gc_S d) cX11_odds 11 0 R 33 L st μ := us_ifne dX11_odds_24 rfl
theorem u125_27 {d : Nat} {R : gR} {μ : gM} {l1 l2 l3 l4 l5 l6 : Value} {st : List Value} {x : Nat}  : gc_W (gc_S d) cX11_odds 11 0 R 27 [.ref x, l1, l2, l3, l4, l5, l6] st μ ↔ gc_W (gc_S d) cX11_odds 11 0 R 28 [.ref x, l1, l2, l3, l4, l5, l6] (.ref x :: st) μ := us_aload_n dX11_odds_27 rfl
theorem u125_28 {d : Nat} {R : gR} {μ : gM} {L : List Value} {st : List Value}   : gc_W (gc_S d) cX11_odds 11 0 R 28 L st μ ↔ gc_W (gc_S d) cX11_odds 11 0 R 29 L (.int 1 :: st) μ := us_iconst dX11_odds_28 ci_iconst_1
theorem u125_29 {d : Nat} {R : gR} {μ : gM} {L : List Value} {o : Nat} {a0 : Int32} (hk : gc_kd o = 11) : gc_W (gc_S d) cX11_odds 11 0 R 29 L [.int a0, .ref o] μ ↔ gc_S d 75 [.ref o, .int a0] μ (fun v μ' => gc_W (gc_S d) cX11_odds 11 0 R 32 L (v.toList ++ []) μ') := us_virt dX11_odds_29 gn_11_88 gc_11_88_11 hk rfl rfl rfl rfl rfl
theorem u125_32 {d : Nat} {R : gR} {μ : gM} {L : List Value} {v : Int32}  : gc_W (gc_S d) cX11_odds 11 0 R 32 L [.int v] μ ↔ R (some (.int v)) μ := us_iret dX11_odds_32 rfl
theorem u125_33 {d : Nat} {R : gR} {μ : gM} {L : List Value} {st : List Value}   : gc_W (gc_S d) cX11_odds 11 0 R 33 L st μ ↔ gc_W (gc_S d) cX11_odds 11 0 R 34 L (.int 0 :: st) μ := us_iconst dX11_odds_33 ci_iconst_0
theorem u125_34 {d : Nat} {R : gR} {μ : gM} {l0 l1 l2 l3 l4 l5 l6 : Value} {st : List Value} {x : Int32} (hs : gc_sk l4 = true) : gc_W (gc_S d) cX11_odds 11 0 R 34 [l0, l1, l2, l3, l4, l5, l6] (.int x :: st) μ ↔ gc_W (gc_S d) cX11_odds 11 0 R 36 [l0, l1, l2, l3, .int x, l5, l6] st μ := us_istore dX11_odds_34 rfl hs
theorem u125_36 {d : Nat} {R : gR} {μ : gM} {L : List Value} {st : List Value}   : gc_W (gc_S d) cX11_odds 11 0 R 36 L st μ ↔ gc_W (gc_S d) cX11_odds 11 0 R 37 L (.int 0 :: st) μ := us_iconst dX11_odds_36 ci_iconst_0
theorem u125_37 {d : Nat} {R : gR} {μ : gM} {l0 l1 l2 l3 l4 l5 l6 : Value} {st : List Value} {x : Int32} (hs : gc_sk l5 = true) : gc_W (gc_S d) cX11_odds 11 0 R 37 [l0, l1, l2, l3, l4, l5, l6] (.int x :: st) μ ↔ gc_W (gc_S d) cX11_odds 11 0 R 39 [l0, l1, l2, l3, l4, .int x, l6] st μ := us_istore dX11_odds_37 rfl hs
theorem u125_39 {d : Nat} {R : gR} {μ : gM} {l0 l1 l2 l3 l4 l6 : Value} {st : List Value} {x : Int32}  : gc_W (gc_S d) cX11_odds 11 0 R 39 [l0, l1, l2, l3, l4, .int x, l6] st μ ↔ gc_W (gc_S d) cX11_odds 11 0 R 41 [l0, l1, l2, l3, l4, .int x, l6] (.int x :: st) μ := us_iload dX11_odds_39 rfl
theorem u125_41 {d : Nat} {R : gR} {μ : gM} {L : List Value} {st : List Value}   : gc_W (gc_S d) cX11_odds 11 0 R 41 L st μ ↔ gc_W (gc_S d) cX11_odds 11 0 R 43 L (.int 8 :: st) μ := us_bipush dX11_odds_41 ci_bipush_8
theorem u125_43 {d : Nat} {R : gR} {μ : gM} {L : List Value} {st : List Value} {x y : Int32}  : gc_W (gc_S d) cX11_odds 11 0 R 43 L (.int y :: .int x :: st) μ ↔ if y ≤ x then gc_W (gc_S d) cX11_odds 11 0 R 105 L st μ else gc_W (gc_S d) cX11_odds 11 0 R 46 L st μ := us_icge dX11_odds_43 rfl
theorem u125_46 {d : Nat} {R : gR} {μ : gM} {l1 l2 l3 l4 l5 l6 : Value} {st : List Value} {x : Nat}  : gc_W (gc_S d) cX11_odds 11 0 R 46 [.ref x, l1, l2, l3, l4, l5, l6] st μ ↔ gc_W (gc_S d) cX11_odds 11 0 R 47 [.ref x, l1, l2, l3, l4, l5, l6] (.ref x :: st) μ := us_aload_n dX11_odds_46 rfl
theorem u125_47 {d : Nat} {R : gR} {μ : gM} {L : List Value} {st : List Value}   : gc_W (gc_S d) cX11_odds 11 0 R 47 L st μ ↔ gc_W (gc_S d) cX11_odds 11 0 R 48 L (.int 1 :: st) μ := us_iconst dX11_odds_47 ci_iconst_1
theorem u125_48 {d : Nat} {R : gR} {μ : gM} {l1 l2 l3 l4 l5 l6 : Value} {st : List Value} {x : Nat}  : gc_W (gc_S d) cX11_odds 11 0 R 48 [.ref x, l1, l2, l3, l4, l5, l6] st μ ↔ gc_W (gc_S d) cX11_odds 11 0 R 49 [.ref x, l1, l2, l3, l4, l5, l6] (.ref x :: st) μ := us_aload_n dX11_odds_48 rfl
theorem u125_49 {d : Nat} {R : gR} {μ : gM} {L : List Value} {st : List Value} {o : Nat} (hk : gc_kd o = 11) : gc_W (gc_S d) cX11_odds 11 0 R 49 L (.ref o :: st) μ ↔ gc_W (gc_S d) cX11_odds 11 0 R 52 L (gc_fv o 0 μ :: st) μ := us_getf dX11_odds_49 gf_11_38 hk
theorem u125_52 {d : Nat} {R : gR} {μ : gM} {L : List Value} {st : List Value} {o : Nat} (hk : gc_kd o = 0) : gc_W (gc_S d) cX11_odds 11 0 R 52 L (.ref o :: st) μ ↔ gc_W (gc_S d) cX11_odds 11 0 R 55 L (gc_fv o 12 μ :: st) μ := us_getf dX11_odds_52 gf_11_149 hk
theorem u125_55 {d : Nat} {R : gR} {μ : gM} {L : List Value} {st : List Value}   : gc_W (gc_S d) cX11_odds 11 0 R 55 L st μ ↔ gc_W (gc_S d) cX11_odds 11 0 R 57 L (.int 6 :: st) μ := us_bipush dX11_odds_55 ci_bipush_6
theorem u125_57 {d : Nat} {R : gR} {μ : gM} {L : List Value} {st : List Value} {x y : Int32}  : gc_W (gc_S d) cX11_odds 11 0 R 57 L (.int y :: .int x :: st) μ ↔ (¬ y = 0 ∧ gc_W (gc_S d) cX11_odds 11 0 R 58 L (.int (x - x / y * y) :: st) μ) := us_irem dX11_odds_57
theorem u125_58 {d : Nat} {R : gR} {μ : gM} {l0 l1 l2 l3 l4 l6 : Value} {st : List Value} {x : Int32}  : gc_W (gc_S d) cX11_odds 11 0 R 58 [l0, l1, l2, l3, l4, .int x, l6] st μ ↔ gc_W (gc_S d) cX11_odds 11 0 R 60 [l0, l1, l2, l3, l4, .int x, l6] (.int x :: st) μ := us_iload dX11_odds_58 rfl
theorem u125_60 {d : Nat} {R : gR} {μ : gM} {L : List Value} {o : Nat} {a0 a1 a2 : Int32} (hk : gc_kd o = 11) : gc_W (gc_S d) cX11_odds 11 0 R 60 L [.int a2, .int a1, .int a0, .ref o] μ ↔ gc_S d 100 [.ref o, .int a0, .int a1, .int a2] μ (fun v μ' => gc_W (gc_S d) cX11_odds 11 0 R 63 L (v.toList ++ []) μ') := us_virt dX11_odds_60 gn_11_238 gc_11_238_11 hk rfl rfl rfl rfl rfl
theorem u125_63 {d : Nat} {R : gR} {μ : gM} {L : List Value} {st : List Value}   : gc_W (gc_S d) cX11_odds 11 0 R 63 L st μ ↔ gc_W (gc_S d) cX11_odds 11 0 R 64 L (.int 0 :: st) μ := us_iconst dX11_odds_63 ci_iconst_0
theorem u125_64 {d : Nat} {R : gR} {μ : gM} {l0 l1 l2 l3 l4 l5 l6 : Value} {st : List Value} {x : Int32} (hs : gc_sk l6 = true) : gc_W (gc_S d) cX11_odds 11 0 R 64 [l0, l1, l2, l3, l4, l5, l6] (.int x :: st) μ ↔ gc_W (gc_S d) cX11_odds 11 0 R 66 [l0, l1, l2, l3, l4, l5, .int x] st μ := us_istore dX11_odds_64 rfl hs
theorem u125_66 {d : Nat} {R : gR} {μ : gM} {l0 l1 l2 l3 l4 l5 : Value} {st : List Value} {x : Int32}  : gc_W (gc_S d) cX11_odds 11 0 R 66 [l0, l1, l2, l3, l4, l5, .int x] st μ ↔ gc_W (gc_S d) cX11_odds 11 0 R 68 [l0, l1, l2, l3, l4, l5, .int x] (.int x :: st) μ := us_iload dX11_odds_66 rfl
theorem u125_68 {d : Nat} {R : gR} {μ : gM} {l0 l2 l3 l4 l5 l6 : Value} {st : List Value} {x : Int32}  : gc_W (gc_S d) cX11_odds 11 0 R 68 [l0, .int x, l2, l3, l4, l5, l6] st μ ↔ gc_W (gc_S d) cX11_odds 11 0 R 69 [l0, .int x, l2, l3, l4, l5, l6] (.int x :: st) μ := us_iload_n dX11_odds_68 rfl
theorem u125_69 {d : Nat} {R : gR} {μ : gM} {L : List Value} {st : List Value} {x y : Int32}  : gc_W (gc_S d) cX11_odds 11 0 R 69 L (.int y :: .int x :: st) μ ↔ if y ≤ x then gc_W (gc_S d) cX11_odds 11 0 R 85 L st μ else gc_W (gc_S d) cX11_odds 11 0 R 72 L st μ := us_icge dX11_odds_69 rfl
theorem u125_72 {d : Nat} {R : gR} {μ : gM} {l1 l2 l3 l4 l5 l6 : Value} {st : List Value} {x : Nat}  : gc_W (gc_S d) cX11_odds 11 0 R 72 [.ref x, l1, l2, l3, l4, l5, l6] st μ ↔ gc_W (gc_S d) cX11_odds 11 0 R 73 [.ref x, l1, l2, l3, l4, l5, l6] (.ref x :: st) μ := us_aload_n dX11_odds_72 rfl
theorem u125_73 {d : Nat} {R : gR} {μ : gM} {L : List Value} {st : List Value} {o : Nat} (hk : gc_kd o = 11) : gc_W (gc_S d) cX11_odds 11 0 R 73 L (.ref o :: st) μ ↔ gc_W (gc_S d) cX11_odds 11 0 R 76 L (gc_fv o 1 μ :: st) μ := us_getf dX11_odds_73 gf_11_42 hk
theorem u125_76 {d : Nat} {R : gR} {μ : gM} {L : List Value} {o : Nat} (hk : gc_kd o = 0) : gc_W (gc_S d) cX11_odds 11 0 R 76 L [.ref o] μ ↔ gc_S d 38 [.ref o] μ (fun v μ' => gc_W (gc_S d) cX11_odds 11 0 R 79 L (v.toList ++ []) μ') := us_virt dX11_odds_76 gn_11_189 gc_11_189_0 hk rfl rfl rfl rfl rfl
theorem u125_79 {d : Nat} {R : gR} {μ : gM} {l0 l1 l2 l3 l4 l5 : Value} {st : List Value} {x : Int32}  : gc_W (gc_S d) cX11_odds 11 0 R 79 [l0, l1, l2, l3, l4, l5, .int x] st μ ↔ gc_W (gc_S d) cX11_odds 11 0 R 82 [l0, l1, l2, l3, l4, l5, .int (x + 1)] st μ := us_iinc dX11_odds_79 rfl ci_iinc_1
theorem u125_82 {d : Nat} {R : gR} {μ : gM} {L : List Value} {st : List Value}  : gc_W (gc_S d) cX11_odds 11 0 R 82 L st μ ↔ gc_W (gc_S d) cX11_odds 11 0 R 66 L st μ := us_goto dX11_odds_82 rfl
theorem u125_85 {d : Nat} {R : gR} {μ : gM} {l1 l2 l3 l4 l5 l6 : Value} {st : List Value} {x : Nat}  : gc_W (gc_S d) cX11_odds 11 0 R 85 [.ref x, l1, l2, l3, l4, l5, l6] st μ ↔ gc_W (gc_S d) cX11_odds 11 0 R 86 [.ref x, l1, l2, l3, l4, l5, l6] (.ref x :: st) μ := us_aload_n dX11_odds_85 rfl
theorem u125_86 {d : Nat} {R : gR} {μ : gM} {L : List Value} {st : List Value} {o : Nat} (hk : gc_kd o = 11) : gc_W (gc_S d) cX11_odds 11 0 R 86 L (.ref o :: st) μ ↔ gc_W (gc_S d) cX11_odds 11 0 R 89 L (gc_fv o 1 μ :: st) μ := us_getf dX11_odds_86 gf_11_42 hk
theorem u125_89 {d : Nat} {R : gR} {μ : gM} {L : List Value} {o : Nat} (hk : gc_kd o = 0) : gc_W (gc_S d) cX11_odds 11 0 R 89 L [.ref o] μ ↔ gc_S d 8 [.ref o] μ (fun v μ' => gc_W (gc_S d) cX11_odds 11 0 R 92 L (v.toList ++ []) μ') := us_virt dX11_odds_89 gn_11_192 gc_11_192_0 hk rfl rfl rfl rfl rfl
theorem u125_92 {d : Nat} {R : gR} {μ : gM} {l0 l1 l3 l4 l5 l6 : Value} {st : List Value} {x : Int32}  : gc_W (gc_S d) cX11_odds 11 0 R 92 [l0, l1, .int x, l3, l4, l5, l6] st μ ↔ gc_W (gc_S d) cX11_odds 11 0 R 93 [l0, l1, .int x, l3, l4, l5, l6] (.int x :: st) μ := us_iload_n dX11_odds_92 rfl
theorem u125_93 {d : Nat} {R : gR} {μ : gM} {L : List Value} {st : List Value} {x y : Int32}  : gc_W (gc_S d) cX11_odds 11 0 R 93 L (.int y :: .int x :: st) μ ↔ if y < x then gc_W (gc_S d) cX11_odds 11 0 R 99 L st μ else gc_W (gc_S d) cX11_odds 11 0 R 96 L st μ := us_icgt dX11_odds_93 rfl
theorem u125_96 {d : Nat} {R : gR} {μ : gM} {l0 l1 l2 l3 l5 l6 : Value} {st : List Value} {x : Int32}  : gc_W (gc_S d) cX11_odds 11 0 R 96 [l0, l1, l2, l3, .int x, l5, l6] st μ ↔ gc_W (gc_S d) cX11_odds 11 0 R 99 [l0, l1, l2, l3, .int (x + 1), l5, l6] st μ := us_iinc dX11_odds_96 rfl ci_iinc_1
theorem u125_99 {d : Nat} {R : gR} {μ : gM} {l0 l1 l2 l3 l4 l6 : Value} {st : List Value} {x : Int32}  : gc_W (gc_S d) cX11_odds 11 0 R 99 [l0, l1, l2, l3, l4, .int x, l6] st μ ↔ gc_W (gc_S d) cX11_odds 11 0 R 102 [l0, l1, l2, l3, l4, .int (x + 1), l6] st μ := us_iinc dX11_odds_99 rfl ci_iinc_1
theorem u125_102 {d : Nat} {R : gR} {μ : gM} {L : List Value} {st : List Value}  : gc_W (gc_S d) cX11_odds 11 0 R 102 L st μ ↔ gc_W (gc_S d) cX11_odds 11 0 R 39 L st μ := us_goto dX11_odds_102 rfl
theorem u125_105 {d : Nat} {R : gR} {μ : gM} {l0 l1 l2 l3 l5 l6 : Value} {st : List Value} {x : Int32}  : gc_W (gc_S d) cX11_odds 11 0 R 105 [l0, l1, l2, l3, .int x, l5, l6] st μ ↔ gc_W (gc_S d) cX11_odds 11 0 R 107 [l0, l1, l2, l3, .int x, l5, l6] (.int x :: st) μ := us_iload dX11_odds_105 rfl
theorem u125_107 {d : Nat} {R : gR} {μ : gM} {L : List Value} {st : List Value}   : gc_W (gc_S d) cX11_odds 11 0 R 107 L st μ ↔ gc_W (gc_S d) cX11_odds 11 0 R 109 L (.int 8 :: st) μ := us_bipush dX11_odds_107 ci_bipush_8
theorem u125_109 {d : Nat} {R : gR} {μ : gM} {L : List Value} {st : List Value} {x y : Int32}  : gc_W (gc_S d) cX11_odds 11 0 R 109 L (.int y :: .int x :: st) μ ↔ gc_W (gc_S d) cX11_odds 11 0 R 110 L (.int (x ||| y) :: st) μ := us_ior dX11_odds_109
theorem u125_110 {d : Nat} {R : gR} {μ : gM} {l0 l1 l2 l3 l5 l6 : Value} {st : List Value} {x : Int32}  : gc_W (gc_S d) cX11_odds 11 0 R 110 [l0, l1, l2, l3, .int x, l5, l6] st μ ↔ gc_W (gc_S d) cX11_odds 11 0 R 112 [l0, l1, l2, l3, .int x, l5, l6] (.int x :: st) μ := us_iload dX11_odds_110 rfl
theorem u125_112 {d : Nat} {R : gR} {μ : gM} {L : List Value} {st : List Value}   : gc_W (gc_S d) cX11_odds 11 0 R 112 L st μ ↔ gc_W (gc_S d) cX11_odds 11 0 R 114 L (.int 8 :: st) μ := us_bipush dX11_odds_112 ci_bipush_8
theorem u125_114 {d : Nat} {R : gR} {μ : gM} {L : List Value} {st : List Value} {x y : Int32}  : gc_W (gc_S d) cX11_odds 11 0 R 114 L (.int y :: .int x :: st) μ ↔ gc_W (gc_S d) cX11_odds 11 0 R 115 L (.int (x ||| y) :: st) μ := us_ior dX11_odds_114
theorem u125_115 {d : Nat} {R : gR} {μ : gM} {L : List Value} {st : List Value} {x : Int32}  : gc_W (gc_S d) cX11_odds 11 0 R 115 L (.int x :: st) μ ↔ gc_W (gc_S d) cX11_odds 11 0 R 116 L (.int (-x) :: st) μ := us_ineg dX11_odds_115
theorem u125_116 {d : Nat} {R : gR} {μ : gM} {L : List Value} {st : List Value} {x y : Int32}  : gc_W (gc_S d) cX11_odds 11 0 R 116 L (.int y :: .int x :: st) μ ↔ gc_W (gc_S d) cX11_odds 11 0 R 117 L (.int (x &&& y) :: st) μ := us_iand dX11_odds_116
theorem u125_117 {d : Nat} {R : gR} {μ : gM} {l0 l1 l2 l3 l4 l5 l6 : Value} {st : List Value} {x : Int32} (hs : gc_sk l5 = true) : gc_W (gc_S d) cX11_odds 11 0 R 117 [l0, l1, l2, l3, l4, l5, l6] (.int x :: st) μ ↔ gc_W (gc_S d) cX11_odds 11 0 R 119 [l0, l1, l2, l3, l4, .int x, l6] st μ := us_istore dX11_odds_117 rfl hs
theorem u125_119 {d : Nat} {R : gR} {μ : gM} {l0 l1 l2 l4 l5 l6 : Value} {st : List Value} {x : Int32}  : gc_W (gc_S d) cX11_odds 11 0 R 119 [l0, l1, l2, .int x, l4, l5, l6] st μ ↔ gc_W (gc_S d) cX11_odds 11 0 R 120 [l0, l1, l2, .int x, l4, l5, l6] (.int x :: st) μ := us_iload_n dX11_odds_119 rfl
theorem u125_120 {d : Nat} {R : gR} {μ : gM} {L : List Value} {st : List Value} {x : Int32}  : gc_W (gc_S d) cX11_odds 11 0 R 120 L (.int x :: st) μ ↔ if x = 0 then gc_W (gc_S d) cX11_odds 11 0 R 123 L st μ else gc_W (gc_S d) cX11_odds 11 0 R 128 L st μ := us_ifne dX11_odds_120 rfl
theorem u125_123 {d : Nat} {R : gR} {μ : gM} {l0 l1 l2 l3 l5 l6 : Value} {st : List Value} {x : Int32}  : gc_W (gc_S d) cX11_odds 11 0 R 123 [l0, l1, l2, l3, .int x, l5, l6] st μ ↔ gc_W (gc_S d) cX11_odds 11 0 R 125 [l0, l1, l2, l3, .int x, l5, l6] (.int x :: st) μ := us_iload dX11_odds_123 rfl
theorem u125_125 {d : Nat} {R : gR} {μ : gM} {L : List Value} {st : List Value}  : gc_W (gc_S d) cX11_odds 11 0 R 125 L st μ ↔ gc_W (gc_S d) cX11_odds 11 0 R 130 L st μ := us_goto dX11_odds_125 rfl
theorem u125_128 {d : Nat} {R : gR} {μ : gM} {L : List Value} {st : List Value}   : gc_W (gc_S d) cX11_odds 11 0 R 128 L st μ ↔ gc_W (gc_S d) cX11_odds 11 0 R 130 L (.int 8 :: st) μ := us_bipush dX11_odds_128 ci_bipush_8
theorem u125_130 {d : Nat} {R : gR} {μ : gM} {l0 l1 l2 l3 l4 l6 : Value} {st : List Value} {x : Int32}  : gc_W (gc_S d) cX11_odds 11 0 R 130 [l0, l1, l2, l3, l4, .int x, l6] st μ ↔ gc_W (gc_S d) cX11_odds 11 0 R 132 [l0, l1, l2, l3, l4, .int x, l6] (.int x :: st) μ := us_iload dX11_odds_130 rfl
theorem u125_132 {d : Nat} {R : gR} {μ : gM} {L : List Value} {st : List Value} {x y : Int32}  : gc_W (gc_S d) cX11_odds 11 0 R 132 L (.int y :: .int x :: st) μ ↔ (¬ y = 0 ∧ gc_W (gc_S d) cX11_odds 11 0 R 133 L (.int (x / y) :: st) μ) := us_idiv dX11_odds_132
theorem u125_133 {d : Nat} {R : gR} {μ : gM} {L : List Value} {v : Int32}  : gc_W (gc_S d) cX11_odds 11 0 R 133 L [.int v] μ ↔ R (some (.int v)) μ := us_iret dX11_odds_133 rfl
theorem s125 {d : Nat} {R : gR} {μ : gM} {o : Nat} {a0 a1 a2 : Int32} : gc_S (d + 1) 125 [.ref o, .int a0, .int a1, .int a2] μ R ↔ gc_W (gc_S d) cX11_odds 11 0 R 0 [.ref o, .int a0, .int a1, .int a2, .retAddr 0, .retAddr 0, .retAddr 0] [] μ := us_call (gm_125) rfl rfl
theorem dX11_seed_0 : decode cX11_seed 0 = .ok (.aload_n 0, 1) := by decide +kernel
theorem dX11_seed_1 : decode cX11_seed 1 = .ok (.getfield 38, 3) := by decide +kernel
theorem dX11_seed_4 : decode cX11_seed 4 = .ok (.getfield 246, 3) := by decide +kernel
theorem dX11_seed_7 : decode cX11_seed 7 = .ok (.istore_n 2, 1) := by decide +kernel
theorem dX11_seed_8 : decode cX11_seed 8 = .ok (.aload_n 0, 1) := by decide +kernel
theorem dX11_seed_9 : decode cX11_seed 9 = .ok (.getfield 38, 3) := by decide +kernel
theorem dX11_seed_12 : decode cX11_seed 12 = .ok (.iload_n 1, 1) := by decide +kernel
theorem dX11_seed_13 : decode cX11_seed 13 = .ok (.putfield 246, 3) := by decide +kernel
theorem dX11_seed_16 : decode cX11_seed 16 = .ok (.iload_n 2, 1) := by decide +kernel
theorem dX11_seed_17 : decode cX11_seed 17 = .ok (.ireturn, 1) := by decide +kernel
theorem u126_0 {d : Nat} {R : gR} {μ : gM} {l1 l2 : Value} {st : List Value} {x : Nat}  : gc_W (gc_S d) cX11_seed 11 0 R 0 [.ref x, l1, l2] st μ ↔ gc_W (gc_S d) cX11_seed 11 0 R 1 [.ref x, l1, l2] (.ref x :: st) μ := us_aload_n dX11_seed_0 rfl
theorem u126_1 {d : Nat} {R : gR} {μ : gM} {L : List Value} {st : List Value} {o : Nat} (hk : gc_kd o = 11) : gc_W (gc_S d) cX11_seed 11 0 R 1 L (.ref o :: st) μ ↔ gc_W (gc_S d) cX11_seed 11 0 R 4 L (gc_fv o 0 μ :: st) μ := us_getf dX11_seed_1 gf_11_38 hk
theorem u126_4 {d : Nat} {R : gR} {μ : gM} {L : List Value} {st : List Value} {o : Nat} (hk : gc_kd o = 0) : gc_W (gc_S d) cX11_seed 11 0 R 4 L (.ref o :: st) μ ↔ gc_W (gc_S d) cX11_seed 11 0 R 7 L (gc_fv o 14 μ :: st) μ := us_getf dX11_seed_4 gf_11_246 hk
theorem u126_7 {d : Nat} {R : gR} {μ : gM} {l0 l1 l2 : Value} {st : List Value} {x : Int32} (hs : gc_sk l2 = true) : gc_W (gc_S d) cX11_seed 11 0 R 7 [l0, l1, l2] (.int x :: st) μ ↔ gc_W (gc_S d) cX11_seed 11 0 R 8 [l0, l1, .int x] st μ := us_istore_n dX11_seed_7 rfl hs
theorem u126_8 {d : Nat} {R : gR} {μ : gM} {l1 l2 : Value} {st : List Value} {x : Nat}  : gc_W (gc_S d) cX11_seed 11 0 R 8 [.ref x, l1, l2] st μ ↔ gc_W (gc_S d) cX11_seed 11 0 R 9 [.ref x, l1, l2] (.ref x :: st) μ := us_aload_n dX11_seed_8 rfl
theorem u126_9 {d : Nat} {R : gR} {μ : gM} {L : List Value} {st : List Value} {o : Nat} (hk : gc_kd o = 11) : gc_W (gc_S d) cX11_seed 11 0 R 9 L (.ref o :: st) μ ↔ gc_W (gc_S d) cX11_seed 11 0 R 12 L (gc_fv o 0 μ :: st) μ := us_getf dX11_seed_9 gf_11_38 hk
theorem u126_12 {d : Nat} {R : gR} {μ : gM} {l0 l2 : Value} {st : List Value} {x : Int32}  : gc_W (gc_S d) cX11_seed 11 0 R 12 [l0, .int x, l2] st μ ↔ gc_W (gc_S d) cX11_seed 11 0 R 13 [l0, .int x, l2] (.int x :: st) μ := us_iload_n dX11_seed_12 rfl
theorem u126_13 {d : Nat} {R : gR} {μ : gM} {L : List Value} {st : List Value} {o : Nat} {x : Int32} (hk : gc_kd o = 0) (hj : gc_fk o 14 = 0) : gc_W (gc_S d) cX11_seed 11 0 R 13 L (.int x :: .ref o :: st) μ ↔ gc_W (gc_S d) cX11_seed 11 0 R 16 L st (gc_up μ o 14 x) := us_putf dX11_seed_13 gf_11_246 hk hj rfl
theorem u126_16 {d : Nat} {R : gR} {μ : gM} {l0 l1 : Value} {st : List Value} {x : Int32}  : gc_W (gc_S d) cX11_seed 11 0 R 16 [l0, l1, .int x] st μ ↔ gc_W (gc_S d) cX11_seed 11 0 R 17 [l0, l1, .int x] (.int x :: st) μ := us_iload_n dX11_seed_16 rfl
theorem u126_17 {d : Nat} {R : gR} {μ : gM} {L : List Value} {v : Int32}  : gc_W (gc_S d) cX11_seed 11 0 R 17 L [.int v] μ ↔ R (some (.int v)) μ := us_iret dX11_seed_17 rfl
theorem s126 {d : Nat} {R : gR} {μ : gM} {o : Nat} {a0 : Int32} : gc_S (d + 1) 126 [.ref o, .int a0] μ R ↔ gc_W (gc_S d) cX11_seed 11 0 R 0 [.ref o, .int a0, .retAddr 0] [] μ := us_call (gm_126) rfl rfl
theorem dX11_voice_0 : decode cX11_voice 0 = .ok (.aload_n 0, 1) := by decide +kernel
theorem dX11_voice_1 : decode cX11_voice 1 = .ok (.iload_n 1, 1) := by decide +kernel
theorem dX11_voice_2 : decode cX11_voice 2 = .ok (.invokevirtual 135, 3) := by decide +kernel
theorem dX11_voice_5 : decode cX11_voice 5 = .ok (.ifCond .eq 11, 3) := by decide +kernel
theorem dX11_voice_8 : decode cX11_voice 8 = .ok (.iconst 3, 1) := by decide +kernel
theorem dX11_voice_9 : decode cX11_voice 9 = .ok (.iload_n 2, 1) := by decide +kernel
theorem dX11_voice_10 : decode cX11_voice 10 = .ok (.invokestatic 84, 3) := by decide +kernel
theorem dX11_voice_13 : decode cX11_voice 13 = .ok (.ifCond .ne 9, 3) := by decide +kernel
theorem dX11_voice_16 : decode cX11_voice 16 = .ok (.aload_n 0, 1) := by decide +kernel
theorem dX11_voice_17 : decode cX11_voice 17 = .ok (.iconst 1, 1) := by decide +kernel
theorem dX11_voice_18 : decode cX11_voice 18 = .ok (.invokevirtual 88, 3) := by decide +kernel
theorem dX11_voice_21 : decode cX11_voice 21 = .ok (.ireturn, 1) := by decide +kernel
theorem dX11_voice_22 : decode cX11_voice 22 = .ok (.aload_n 0, 1) := by decide +kernel
theorem dX11_voice_23 : decode cX11_voice 23 = .ok (.getfield 64, 3) := by decide +kernel
theorem dX11_voice_26 : decode cX11_voice 26 = .ok (.iload_n 1, 1) := by decide +kernel
theorem dX11_voice_27 : decode cX11_voice 27 = .ok (.putfield 249, 3) := by decide +kernel
theorem dX11_voice_30 : decode cX11_voice 30 = .ok (.aload_n 0, 1) := by decide +kernel
theorem dX11_voice_31 : decode cX11_voice 31 = .ok (.getfield 64, 3) := by decide +kernel
theorem dX11_voice_34 : decode cX11_voice 34 = .ok (.aload_n 0, 1) := by decide +kernel
theorem dX11_voice_35 : decode cX11_voice 35 = .ok (.getfield 38, 3) := by decide +kernel
theorem dX11_voice_38 : decode cX11_voice 38 = .ok (.getfield 126, 3) := by decide +kernel
theorem dX11_voice_41 : decode cX11_voice 41 = .ok (.iload_n 1, 1) := by decide +kernel
theorem dX11_voice_42 : decode cX11_voice 42 = .ok (.iaload, 1) := by decide +kernel
theorem dX11_voice_43 : decode cX11_voice 43 = .ok (.putfield 252, 3) := by decide +kernel
theorem dX11_voice_46 : decode cX11_voice 46 = .ok (.aload_n 0, 1) := by decide +kernel
theorem dX11_voice_47 : decode cX11_voice 47 = .ok (.getfield 64, 3) := by decide +kernel
theorem dX11_voice_50 : decode cX11_voice 50 = .ok (.getfield 254, 3) := by decide +kernel
theorem dX11_voice_53 : decode cX11_voice 53 = .ok (.iconst 0, 1) := by decide +kernel
theorem dX11_voice_54 : decode cX11_voice 54 = .ok (.putfield 161, 3) := by decide +kernel
theorem dX11_voice_57 : decode cX11_voice 57 = .ok (.aload_n 0, 1) := by decide +kernel
theorem dX11_voice_58 : decode cX11_voice 58 = .ok (.getfield 38, 3) := by decide +kernel
theorem dX11_voice_61 : decode cX11_voice 61 = .ok (.iload_n 1, 1) := by decide +kernel
theorem dX11_voice_62 : decode cX11_voice 62 = .ok (.invokevirtual 141, 3) := by decide +kernel
theorem dX11_voice_65 : decode cX11_voice 65 = .ok (.astore 4, 2) := by decide +kernel
theorem dX11_voice_67 : decode cX11_voice 67 = .ok (.iload_n 2, 1) := by decide +kernel
theorem dX11_voice_68 : decode cX11_voice 68 = .ok (.tableswitch 61 0 2 #[28, 39, 50], 28) := by decide +kernel
theorem dX11_voice_96 : decode cX11_voice 96 = .ok (.aload 4, 2) := by decide +kernel
theorem dX11_voice_98 : decode cX11_voice 98 = .ok (.aload_n 0, 1) := by decide +kernel
theorem dX11_voice_99 : decode cX11_voice 99 = .ok (.getfield 64, 3) := by decide +kernel
theorem dX11_voice_102 : decode cX11_voice 102 = .ok (.iload_n 3, 1) := by decide +kernel
theorem dX11_voice_103 : decode cX11_voice 103 = .ok (.invokevirtual 257, 3) := by decide +kernel
theorem dX11_voice_106 : decode cX11_voice 106 = .ok (.ireturn, 1) := by decide +kernel
theorem dX11_voice_107 : decode cX11_voice 107 = .ok (.aload 4, 2) := by decide +kernel
theorem dX11_voice_109 : decode cX11_voice 109 = .ok (.aload_n 0, 1) := by decide +kernel
theorem dX11_voice_110 : decode cX11_voice 110 = .ok (.getfield 64, 3) := by decide +kernel
theorem dX11_voice_113 : decode cX11_voice 113 = .ok (.iload_n 3, 1) := by decide +kernel
theorem dX11_voice_114 : decode cX11_voice 114 = .ok (.invokevirtual 261, 3) := by decide +kernel
theorem dX11_voice_117 : decode cX11_voice 117 = .ok (.ireturn, 1) := by decide +kernel
theorem dX11_voice_118 : decode cX11_voice 118 = .ok (.aload 4, 2) := by decide +kernel
theorem dX11_voice_120 : decode cX11_voice 120 = .ok (.aload_n 0, 1) := by decide +kernel
theorem dX11_voice_121 : decode cX11_voice 121 = .ok (.getfield 64, 3) := by decide +kernel
theorem dX11_voice_124 : decode cX11_voice 124 = .ok (.iload_n 3, 1) := by decide +kernel
theorem dX11_voice_125 : decode cX11_voice 125 = .ok (.invokevirtual 264, 3) := by decide +kernel
theorem dX11_voice_128 : decode cX11_voice 128 = .ok (.ireturn, 1) := by decide +kernel
theorem dX11_voice_129 : decode cX11_voice 129 = .ok (.aload 4, 2) := by decide +kernel
theorem dX11_voice_131 : decode cX11_voice 131 = .ok (.aload_n 0, 1) := by decide +kernel
theorem dX11_voice_132 : decode cX11_voice 132 = .ok (.getfield 64, 3) := by decide +kernel
theorem dX11_voice_135 : decode cX11_voice 135 = .ok (.iload_n 3, 1) := by decide +kernel
theorem dX11_voice_136 : decode cX11_voice 136 = .ok (.invokevirtual 267, 3) := by decide +kernel
theorem dX11_voice_139 : decode cX11_voice 139 = .ok (.ireturn, 1) := by decide +kernel
theorem u127_0 {d : Nat} {R : gR} {μ : gM} {l1 l2 l3 l4 : Value} {st : List Value} {x : Nat}  : gc_W (gc_S d) cX11_voice 11 0 R 0 [.ref x, l1, l2, l3, l4] st μ ↔ gc_W (gc_S d) cX11_voice 11 0 R 1 [.ref x, l1, l2, l3, l4] (.ref x :: st) μ := us_aload_n dX11_voice_0 rfl
theorem u127_1 {d : Nat} {R : gR} {μ : gM} {l0 l2 l3 l4 : Value} {st : List Value} {x : Int32}  : gc_W (gc_S d) cX11_voice 11 0 R 1 [l0, .int x, l2, l3, l4] st μ ↔ gc_W (gc_S d) cX11_voice 11 0 R 2 [l0, .int x, l2, l3, l4] (.int x :: st) μ := us_iload_n dX11_voice_1 rfl
theorem u127_2 {d : Nat} {R : gR} {μ : gM} {L : List Value} {o : Nat} {a0 : Int32} (hk : gc_kd o = 11) : gc_W (gc_S d) cX11_voice 11 0 R 2 L [.int a0, .ref o] μ ↔ gc_S d 82 [.ref o, .int a0] μ (fun v μ' => gc_W (gc_S d) cX11_voice 11 0 R 5 L (v.toList ++ []) μ') := us_virt dX11_voice_2 gn_11_135 gc_11_135_11 hk rfl rfl rfl rfl rfl
theorem u127_5 {d : Nat} {R : gR} {μ : gM} {L : List Value} {st : List Value} {x : Int32}  : gc_W (gc_S d) cX11_voice 11 0 R 5 L (.int x :: st) μ ↔ if x = 0 then gc_W (gc_S d) cX11_voice 11 0 R 16 L st μ else gc_W (gc_S d) cX11_voice 11 0 R 8 L st μ := us_ifeq dX11_voice_5 rfl
theorem u127_8 {d : Nat} {R : gR} {μ : gM} {L : List Value} {st : List Value}   : gc_W (gc_S d) cX11_voice 11 0 R 8 L st μ ↔ gc_W (gc_S d) cX11_voice 11 0 R 9 L (.int 3 :: st) μ := us_iconst dX11_voice_8 ci_iconst_3
theorem u127_9 {d : Nat} {R : gR} {μ : gM} {l0 l1 l3 l4 : Value} {st : List Value} {x : Int32}  : gc_W (gc_S d) cX11_voice 11 0 R 9 [l0, l1, .int x, l3, l4] st μ ↔ gc_W (gc_S d) cX11_voice 11 0 R 10 [l0, l1, .int x, l3, l4] (.int x :: st) μ := us_iload_n dX11_voice_9 rfl
theorem u127_10 {d : Nat} {R : gR} {μ : gM} {L : List Value}  {a0 a1 : Int32}  : gc_W (gc_S d) cX11_voice 11 0 R 10 L [.int a1, .int a0] μ ↔ gc_S d 73 [.int a0, .int a1] μ (fun v μ' => gc_W (gc_S d) cX11_voice 11 0 R 13 L (v.toList ++ []) μ') := us_stat dX11_voice_10 gs_11_84 gne_11_84 gn_11_84 gc_11_84_97 rfl rfl rfl rfl
theorem u127_13 {d : Nat} {R : gR} {μ : gM} {L : List Value} {st : List Value} {x : Int32}  : gc_W (gc_S d) cX11_voice 11 0 R 13 L (.int x :: st) μ ↔ if x = 0 then gc_W (gc_S d) cX11_voice 11 0 R 16 L st μ else gc_W (gc_S d) cX11_voice 11 0 R 22 L st μ := us_ifne dX11_voice_13 rfl
theorem u127_16 {d : Nat} {R : gR} {μ : gM} {l1 l2 l3 l4 : Value} {st : List Value} {x : Nat}  : gc_W (gc_S d) cX11_voice 11 0 R 16 [.ref x, l1, l2, l3, l4] st μ ↔ gc_W (gc_S d) cX11_voice 11 0 R 17 [.ref x, l1, l2, l3, l4] (.ref x :: st) μ := us_aload_n dX11_voice_16 rfl
theorem u127_17 {d : Nat} {R : gR} {μ : gM} {L : List Value} {st : List Value}   : gc_W (gc_S d) cX11_voice 11 0 R 17 L st μ ↔ gc_W (gc_S d) cX11_voice 11 0 R 18 L (.int 1 :: st) μ := us_iconst dX11_voice_17 ci_iconst_1
theorem u127_18 {d : Nat} {R : gR} {μ : gM} {L : List Value} {o : Nat} {a0 : Int32} (hk : gc_kd o = 11) : gc_W (gc_S d) cX11_voice 11 0 R 18 L [.int a0, .ref o] μ ↔ gc_S d 75 [.ref o, .int a0] μ (fun v μ' => gc_W (gc_S d) cX11_voice 11 0 R 21 L (v.toList ++ []) μ') := us_virt dX11_voice_18 gn_11_88 gc_11_88_11 hk rfl rfl rfl rfl rfl
theorem u127_21 {d : Nat} {R : gR} {μ : gM} {L : List Value} {v : Int32}  : gc_W (gc_S d) cX11_voice 11 0 R 21 L [.int v] μ ↔ R (some (.int v)) μ := us_iret dX11_voice_21 rfl
theorem u127_22 {d : Nat} {R : gR} {μ : gM} {l1 l2 l3 l4 : Value} {st : List Value} {x : Nat}  : gc_W (gc_S d) cX11_voice 11 0 R 22 [.ref x, l1, l2, l3, l4] st μ ↔ gc_W (gc_S d) cX11_voice 11 0 R 23 [.ref x, l1, l2, l3, l4] (.ref x :: st) μ := us_aload_n dX11_voice_22 rfl
theorem u127_23 {d : Nat} {R : gR} {μ : gM} {L : List Value} {st : List Value} {o : Nat} (hk : gc_kd o = 11) : gc_W (gc_S d) cX11_voice 11 0 R 23 L (.ref o :: st) μ ↔ gc_W (gc_S d) cX11_voice 11 0 R 26 L (gc_fv o 5 μ :: st) μ := us_getf dX11_voice_23 gf_11_64 hk
theorem u127_26 {d : Nat} {R : gR} {μ : gM} {l0 l2 l3 l4 : Value} {st : List Value} {x : Int32}  : gc_W (gc_S d) cX11_voice 11 0 R 26 [l0, .int x, l2, l3, l4] st μ ↔ gc_W (gc_S d) cX11_voice 11 0 R 27 [l0, .int x, l2, l3, l4] (.int x :: st) μ := us_iload_n dX11_voice_26 rfl
theorem u127_27 {d : Nat} {R : gR} {μ : gM} {L : List Value} {st : List Value} {o : Nat} {x : Int32} (hk : gc_kd o = 9) (hj : gc_fk o 1 = 0) : gc_W (gc_S d) cX11_voice 11 0 R 27 L (.int x :: .ref o :: st) μ ↔ gc_W (gc_S d) cX11_voice 11 0 R 30 L st (gc_up μ o 1 x) := us_putf dX11_voice_27 gf_11_249 hk hj rfl
theorem u127_30 {d : Nat} {R : gR} {μ : gM} {l1 l2 l3 l4 : Value} {st : List Value} {x : Nat}  : gc_W (gc_S d) cX11_voice 11 0 R 30 [.ref x, l1, l2, l3, l4] st μ ↔ gc_W (gc_S d) cX11_voice 11 0 R 31 [.ref x, l1, l2, l3, l4] (.ref x :: st) μ := us_aload_n dX11_voice_30 rfl
theorem u127_31 {d : Nat} {R : gR} {μ : gM} {L : List Value} {st : List Value} {o : Nat} (hk : gc_kd o = 11) : gc_W (gc_S d) cX11_voice 11 0 R 31 L (.ref o :: st) μ ↔ gc_W (gc_S d) cX11_voice 11 0 R 34 L (gc_fv o 5 μ :: st) μ := us_getf dX11_voice_31 gf_11_64 hk
theorem u127_34 {d : Nat} {R : gR} {μ : gM} {l1 l2 l3 l4 : Value} {st : List Value} {x : Nat}  : gc_W (gc_S d) cX11_voice 11 0 R 34 [.ref x, l1, l2, l3, l4] st μ ↔ gc_W (gc_S d) cX11_voice 11 0 R 35 [.ref x, l1, l2, l3, l4] (.ref x :: st) μ := us_aload_n dX11_voice_34 rfl
theorem u127_35 {d : Nat} {R : gR} {μ : gM} {L : List Value} {st : List Value} {o : Nat} (hk : gc_kd o = 11) : gc_W (gc_S d) cX11_voice 11 0 R 35 L (.ref o :: st) μ ↔ gc_W (gc_S d) cX11_voice 11 0 R 38 L (gc_fv o 0 μ :: st) μ := us_getf dX11_voice_35 gf_11_38 hk
theorem u127_38 {d : Nat} {R : gR} {μ : gM} {L : List Value} {st : List Value} {o : Nat} (hk : gc_kd o = 0) : gc_W (gc_S d) cX11_voice 11 0 R 38 L (.ref o :: st) μ ↔ gc_W (gc_S d) cX11_voice 11 0 R 41 L (gc_fv o 6 μ :: st) μ := us_getf dX11_voice_38 gf_11_126 hk
theorem u127_41 {d : Nat} {R : gR} {μ : gM} {l0 l2 l3 l4 : Value} {st : List Value} {x : Int32}  : gc_W (gc_S d) cX11_voice 11 0 R 41 [l0, .int x, l2, l3, l4] st μ ↔ gc_W (gc_S d) cX11_voice 11 0 R 42 [l0, .int x, l2, l3, l4] (.int x :: st) μ := us_iload_n dX11_voice_41 rfl
theorem u127_42 {d : Nat} {R : gR} {μ : gM} {L : List Value} {st : List Value} {o : Nat} {i : Int32} (hk : gc_kd o = 20) : gc_W (gc_S d) cX11_voice 11 0 R 42 L (.int i :: .ref o :: st) μ ↔ (vp_in i (gc_al o) ∧ gc_W (gc_S d) cX11_voice 11 0 R 43 L (.int (μ o i.toNatClampNeg) :: st) μ) := us_iald dX11_voice_42 hk
theorem u127_43 {d : Nat} {R : gR} {μ : gM} {L : List Value} {st : List Value} {o : Nat} {x : Int32} (hk : gc_kd o = 9) (hj : gc_fk o 2 = 0) : gc_W (gc_S d) cX11_voice 11 0 R 43 L (.int x :: .ref o :: st) μ ↔ gc_W (gc_S d) cX11_voice 11 0 R 46 L st (gc_up μ o 2 x) := us_putf dX11_voice_43 gf_11_252 hk hj rfl
theorem u127_46 {d : Nat} {R : gR} {μ : gM} {l1 l2 l3 l4 : Value} {st : List Value} {x : Nat}  : gc_W (gc_S d) cX11_voice 11 0 R 46 [.ref x, l1, l2, l3, l4] st μ ↔ gc_W (gc_S d) cX11_voice 11 0 R 47 [.ref x, l1, l2, l3, l4] (.ref x :: st) μ := us_aload_n dX11_voice_46 rfl
theorem u127_47 {d : Nat} {R : gR} {μ : gM} {L : List Value} {st : List Value} {o : Nat} (hk : gc_kd o = 11) : gc_W (gc_S d) cX11_voice 11 0 R 47 L (.ref o :: st) μ ↔ gc_W (gc_S d) cX11_voice 11 0 R 50 L (gc_fv o 5 μ :: st) μ := us_getf dX11_voice_47 gf_11_64 hk
theorem u127_50 {d : Nat} {R : gR} {μ : gM} {L : List Value} {st : List Value} {o : Nat} (hk : gc_kd o = 9) : gc_W (gc_S d) cX11_voice 11 0 R 50 L (.ref o :: st) μ ↔ gc_W (gc_S d) cX11_voice 11 0 R 53 L (gc_fv o 0 μ :: st) μ := us_getf dX11_voice_50 gf_11_254 hk
theorem u127_53 {d : Nat} {R : gR} {μ : gM} {L : List Value} {st : List Value}   : gc_W (gc_S d) cX11_voice 11 0 R 53 L st μ ↔ gc_W (gc_S d) cX11_voice 11 0 R 54 L (.int 0 :: st) μ := us_iconst dX11_voice_53 ci_iconst_0
theorem u127_54 {d : Nat} {R : gR} {μ : gM} {L : List Value} {st : List Value} {o : Nat} {x : Int32} (hk : gc_kd o = 7) (hj : gc_fk o 1 = 0) : gc_W (gc_S d) cX11_voice 11 0 R 54 L (.int x :: .ref o :: st) μ ↔ gc_W (gc_S d) cX11_voice 11 0 R 57 L st (gc_up μ o 1 x) := us_putf dX11_voice_54 gf_11_161 hk hj rfl
theorem u127_57 {d : Nat} {R : gR} {μ : gM} {l1 l2 l3 l4 : Value} {st : List Value} {x : Nat}  : gc_W (gc_S d) cX11_voice 11 0 R 57 [.ref x, l1, l2, l3, l4] st μ ↔ gc_W (gc_S d) cX11_voice 11 0 R 58 [.ref x, l1, l2, l3, l4] (.ref x :: st) μ := us_aload_n dX11_voice_57 rfl
theorem u127_58 {d : Nat} {R : gR} {μ : gM} {L : List Value} {st : List Value} {o : Nat} (hk : gc_kd o = 11) : gc_W (gc_S d) cX11_voice 11 0 R 58 L (.ref o :: st) μ ↔ gc_W (gc_S d) cX11_voice 11 0 R 61 L (gc_fv o 0 μ :: st) μ := us_getf dX11_voice_58 gf_11_38 hk
theorem u127_61 {d : Nat} {R : gR} {μ : gM} {l0 l2 l3 l4 : Value} {st : List Value} {x : Int32}  : gc_W (gc_S d) cX11_voice 11 0 R 61 [l0, .int x, l2, l3, l4] st μ ↔ gc_W (gc_S d) cX11_voice 11 0 R 62 [l0, .int x, l2, l3, l4] (.int x :: st) μ := us_iload_n dX11_voice_61 rfl
theorem u127_62 {d : Nat} {R : gR} {μ : gM} {L : List Value} {o : Nat} {a0 : Int32} (hk : gc_kd o = 0) : gc_W (gc_S d) cX11_voice 11 0 R 62 L [.int a0, .ref o] μ ↔ gc_S d 3 [.ref o, .int a0] μ (fun v μ' => gc_W (gc_S d) cX11_voice 11 0 R 65 L (v.toList ++ []) μ') := us_virt dX11_voice_62 gn_11_141 gc_11_141_0 hk rfl rfl rfl rfl rfl
theorem u127_65 {d : Nat} {R : gR} {μ : gM} {l0 l1 l2 l3 l4 : Value} {st : List Value} {x : Nat} (hs : gc_sk l4 = true) : gc_W (gc_S d) cX11_voice 11 0 R 65 [l0, l1, l2, l3, l4] (.ref x :: st) μ ↔ gc_W (gc_S d) cX11_voice 11 0 R 67 [l0, l1, l2, l3, .ref x] st μ := us_astore dX11_voice_65 rfl hs
theorem u127_67 {d : Nat} {R : gR} {μ : gM} {l0 l1 l3 l4 : Value} {st : List Value} {x : Int32}  : gc_W (gc_S d) cX11_voice 11 0 R 67 [l0, l1, .int x, l3, l4] st μ ↔ gc_W (gc_S d) cX11_voice 11 0 R 68 [l0, l1, .int x, l3, l4] (.int x :: st) μ := us_iload_n dX11_voice_67 rfl
theorem u127_68 {d : Nat} {R : gR} {μ : gM} {L : List Value} {st : List Value} {x : Int32}  : gc_W (gc_S d) cX11_voice 11 0 R 68 L (.int x :: st) μ ↔ if x = 0 then gc_W (gc_S d) cX11_voice 11 0 R 96 L st μ else (if x = 1 then gc_W (gc_S d) cX11_voice 11 0 R 107 L st μ else (if x = 2 then gc_W (gc_S d) cX11_voice 11 0 R 118 L st μ else (gc_W (gc_S d) cX11_voice 11 0 R 129 L st μ))) := us_tsw [(0, 96), (1, 107), (2, 118)] dX11_voice_68 rfl (by decide) (by decide +kernel) (dt := 129) rfl
theorem u127_96 {d : Nat} {R : gR} {μ : gM} {l0 l1 l2 l3 : Value} {st : List Value} {x : Nat}  : gc_W (gc_S d) cX11_voice 11 0 R 96 [l0, l1, l2, l3, .ref x] st μ ↔ gc_W (gc_S d) cX11_voice 11 0 R 98 [l0, l1, l2, l3, .ref x] (.ref x :: st) μ := us_aload dX11_voice_96 rfl
theorem u127_98 {d : Nat} {R : gR} {μ : gM} {l1 l2 l3 l4 : Value} {st : List Value} {x : Nat}  : gc_W (gc_S d) cX11_voice 11 0 R 98 [.ref x, l1, l2, l3, l4] st μ ↔ gc_W (gc_S d) cX11_voice 11 0 R 99 [.ref x, l1, l2, l3, l4] (.ref x :: st) μ := us_aload_n dX11_voice_98 rfl
theorem u127_99 {d : Nat} {R : gR} {μ : gM} {L : List Value} {st : List Value} {o : Nat} (hk : gc_kd o = 11) : gc_W (gc_S d) cX11_voice 11 0 R 99 L (.ref o :: st) μ ↔ gc_W (gc_S d) cX11_voice 11 0 R 102 L (gc_fv o 5 μ :: st) μ := us_getf dX11_voice_99 gf_11_64 hk
theorem u127_102 {d : Nat} {R : gR} {μ : gM} {l0 l1 l2 l4 : Value} {st : List Value} {x : Int32}  : gc_W (gc_S d) cX11_voice 11 0 R 102 [l0, l1, l2, .int x, l4] st μ ↔ gc_W (gc_S d) cX11_voice 11 0 R 103 [l0, l1, l2, .int x, l4] (.int x :: st) μ := us_iload_n dX11_voice_102 rfl
theorem u127_103_1 {d : Nat} {R : gR} {μ : gM} {L : List Value} {o : Nat} {a1 : Int32} {a0 : Nat} (hk : gc_kd o = 1) : gc_W (gc_S d) cX11_voice 11 0 R 103 L [.int a1, .ref a0, .ref o] μ ↔ gc_S d 45 [.ref o, .ref a0, .int a1] μ (fun v μ' => gc_W (gc_S d) cX11_voice 11 0 R 106 L (v.toList ++ []) μ') := us_virt dX11_voice_103 gn_11_257 gc_11_257_1 hk rfl rfl rfl rfl rfl
theorem u127_103_3 {d : Nat} {R : gR} {μ : gM} {L : List Value} {o : Nat} {a1 : Int32} {a0 : Nat} (hk : gc_kd o = 3) : gc_W (gc_S d) cX11_voice 11 0 R 103 L [.int a1, .ref a0, .ref o] μ ↔ gc_S d 45 [.ref o, .ref a0, .int a1] μ (fun v μ' => gc_W (gc_S d) cX11_voice 11 0 R 106 L (v.toList ++ []) μ') := us_virt dX11_voice_103 gn_11_257 gc_11_257_3 hk rfl rfl rfl rfl rfl
theorem u127_103_4 {d : Nat} {R : gR} {μ : gM} {L : List Value} {o : Nat} {a1 : Int32} {a0 : Nat} (hk : gc_kd o = 4) : gc_W (gc_S d) cX11_voice 11 0 R 103 L [.int a1, .ref a0, .ref o] μ ↔ gc_S d 45 [.ref o, .ref a0, .int a1] μ (fun v μ' => gc_W (gc_S d) cX11_voice 11 0 R 106 L (v.toList ++ []) μ') := us_virt dX11_voice_103 gn_11_257 gc_11_257_4 hk rfl rfl rfl rfl rfl
theorem u127_103_5 {d : Nat} {R : gR} {μ : gM} {L : List Value} {o : Nat} {a1 : Int32} {a0 : Nat} (hk : gc_kd o = 5) : gc_W (gc_S d) cX11_voice 11 0 R 103 L [.int a1, .ref a0, .ref o] μ ↔ gc_S d 45 [.ref o, .ref a0, .int a1] μ (fun v μ' => gc_W (gc_S d) cX11_voice 11 0 R 106 L (v.toList ++ []) μ') := us_virt dX11_voice_103 gn_11_257 gc_11_257_5 hk rfl rfl rfl rfl rfl
theorem u127_103_6 {d : Nat} {R : gR} {μ : gM} {L : List Value} {o : Nat} {a1 : Int32} {a0 : Nat} (hk : gc_kd o = 6) : gc_W (gc_S d) cX11_voice 11 0 R 103 L [.int a1, .ref a0, .ref o] μ ↔ gc_S d 46 [.ref o, .ref a0, .int a1] μ (fun v μ' => gc_W (gc_S d) cX11_voice 11 0 R 106 L (v.toList ++ []) μ') := us_virt dX11_voice_103 gn_11_257 gc_11_257_6 hk rfl rfl rfl rfl rfl
theorem u127_103_8 {d : Nat} {R : gR} {μ : gM} {L : List Value} {o : Nat} {a1 : Int32} {a0 : Nat} (hk : gc_kd o = 8) : gc_W (gc_S d) cX11_voice 11 0 R 103 L [.int a1, .ref a0, .ref o] μ ↔ gc_S d 45 [.ref o, .ref a0, .int a1] μ (fun v μ' => gc_W (gc_S d) cX11_voice 11 0 R 106 L (v.toList ++ []) μ') := us_virt dX11_voice_103 gn_11_257 gc_11_257_8 hk rfl rfl rfl rfl rfl
theorem u127_103_10 {d : Nat} {R : gR} {μ : gM} {L : List Value} {o : Nat} {a1 : Int32} {a0 : Nat} (hk : gc_kd o = 10) : gc_W (gc_S d) cX11_voice 11 0 R 103 L [.int a1, .ref a0, .ref o] μ ↔ gc_S d 46 [.ref o, .ref a0, .int a1] μ (fun v μ' => gc_W (gc_S d) cX11_voice 11 0 R 106 L (v.toList ++ []) μ') := us_virt dX11_voice_103 gn_11_257 gc_11_257_10 hk rfl rfl rfl rfl rfl
theorem u127_106 {d : Nat} {R : gR} {μ : gM} {L : List Value} {v : Int32}  : gc_W (gc_S d) cX11_voice 11 0 R 106 L [.int v] μ ↔ R (some (.int v)) μ := us_iret dX11_voice_106 rfl
theorem u127_107 {d : Nat} {R : gR} {μ : gM} {l0 l1 l2 l3 : Value} {st : List Value} {x : Nat}  : gc_W (gc_S d) cX11_voice 11 0 R 107 [l0, l1, l2, l3, .ref x] st μ ↔ gc_W (gc_S d) cX11_voice 11 0 R 109 [l0, l1, l2, l3, .ref x] (.ref x :: st) μ := us_aload dX11_voice_107 rfl
theorem u127_109 {d : Nat} {R : gR} {μ : gM} {l1 l2 l3 l4 : Value} {st : List Value} {x : Nat}  : gc_W (gc_S d) cX11_voice 11 0 R 109 [.ref x, l1, l2, l3, l4] st μ ↔ gc_W (gc_S d) cX11_voice 11 0 R 110 [.ref x, l1, l2, l3, l4] (.ref x :: st) μ := us_aload_n dX11_voice_109 rfl
theorem u127_110 {d : Nat} {R : gR} {μ : gM} {L : List Value} {st : List Value} {o : Nat} (hk : gc_kd o = 11) : gc_W (gc_S d) cX11_voice 11 0 R 110 L (.ref o :: st) μ ↔ gc_W (gc_S d) cX11_voice 11 0 R 113 L (gc_fv o 5 μ :: st) μ := us_getf dX11_voice_110 gf_11_64 hk
theorem u127_113 {d : Nat} {R : gR} {μ : gM} {l0 l1 l2 l4 : Value} {st : List Value} {x : Int32}  : gc_W (gc_S d) cX11_voice 11 0 R 113 [l0, l1, l2, .int x, l4] st μ ↔ gc_W (gc_S d) cX11_voice 11 0 R 114 [l0, l1, l2, .int x, l4] (.int x :: st) μ := us_iload_n dX11_voice_113 rfl
theorem u127_114_1 {d : Nat} {R : gR} {μ : gM} {L : List Value} {o : Nat} {a1 : Int32} {a0 : Nat} (hk : gc_kd o = 1) : gc_W (gc_S d) cX11_voice 11 0 R 114 L [.int a1, .ref a0, .ref o] μ ↔ gc_S d 47 [.ref o, .ref a0, .int a1] μ (fun v μ' => gc_W (gc_S d) cX11_voice 11 0 R 117 L (v.toList ++ []) μ') := us_virt dX11_voice_114 gn_11_261 gc_11_261_1 hk rfl rfl rfl rfl rfl
theorem u127_114_3 {d : Nat} {R : gR} {μ : gM} {L : List Value} {o : Nat} {a1 : Int32} {a0 : Nat} (hk : gc_kd o = 3) : gc_W (gc_S d) cX11_voice 11 0 R 114 L [.int a1, .ref a0, .ref o] μ ↔ gc_S d 47 [.ref o, .ref a0, .int a1] μ (fun v μ' => gc_W (gc_S d) cX11_voice 11 0 R 117 L (v.toList ++ []) μ') := us_virt dX11_voice_114 gn_11_261 gc_11_261_3 hk rfl rfl rfl rfl rfl
theorem u127_114_4 {d : Nat} {R : gR} {μ : gM} {L : List Value} {o : Nat} {a1 : Int32} {a0 : Nat} (hk : gc_kd o = 4) : gc_W (gc_S d) cX11_voice 11 0 R 114 L [.int a1, .ref a0, .ref o] μ ↔ gc_S d 67 [.ref o, .ref a0, .int a1] μ (fun v μ' => gc_W (gc_S d) cX11_voice 11 0 R 117 L (v.toList ++ []) μ') := us_virt dX11_voice_114 gn_11_261 gc_11_261_4 hk rfl rfl rfl rfl rfl
theorem u127_114_5 {d : Nat} {R : gR} {μ : gM} {L : List Value} {o : Nat} {a1 : Int32} {a0 : Nat} (hk : gc_kd o = 5) : gc_W (gc_S d) cX11_voice 11 0 R 114 L [.int a1, .ref a0, .ref o] μ ↔ gc_S d 47 [.ref o, .ref a0, .int a1] μ (fun v μ' => gc_W (gc_S d) cX11_voice 11 0 R 117 L (v.toList ++ []) μ') := us_virt dX11_voice_114 gn_11_261 gc_11_261_5 hk rfl rfl rfl rfl rfl
theorem u127_114_6 {d : Nat} {R : gR} {μ : gM} {L : List Value} {o : Nat} {a1 : Int32} {a0 : Nat} (hk : gc_kd o = 6) : gc_W (gc_S d) cX11_voice 11 0 R 114 L [.int a1, .ref a0, .ref o] μ ↔ gc_S d 47 [.ref o, .ref a0, .int a1] μ (fun v μ' => gc_W (gc_S d) cX11_voice 11 0 R 117 L (v.toList ++ []) μ') := us_virt dX11_voice_114 gn_11_261 gc_11_261_6 hk rfl rfl rfl rfl rfl
theorem u127_114_8 {d : Nat} {R : gR} {μ : gM} {L : List Value} {o : Nat} {a1 : Int32} {a0 : Nat} (hk : gc_kd o = 8) : gc_W (gc_S d) cX11_voice 11 0 R 114 L [.int a1, .ref a0, .ref o] μ ↔ gc_S d 66 [.ref o, .ref a0, .int a1] μ (fun v μ' => gc_W (gc_S d) cX11_voice 11 0 R 117 L (v.toList ++ []) μ') := us_virt dX11_voice_114 gn_11_261 gc_11_261_8 hk rfl rfl rfl rfl rfl
theorem u127_114_10 {d : Nat} {R : gR} {μ : gM} {L : List Value} {o : Nat} {a1 : Int32} {a0 : Nat} (hk : gc_kd o = 10) : gc_W (gc_S d) cX11_voice 11 0 R 114 L [.int a1, .ref a0, .ref o] μ ↔ gc_S d 47 [.ref o, .ref a0, .int a1] μ (fun v μ' => gc_W (gc_S d) cX11_voice 11 0 R 117 L (v.toList ++ []) μ') := us_virt dX11_voice_114 gn_11_261 gc_11_261_10 hk rfl rfl rfl rfl rfl
theorem u127_117 {d : Nat} {R : gR} {μ : gM} {L : List Value} {v : Int32}  : gc_W (gc_S d) cX11_voice 11 0 R 117 L [.int v] μ ↔ R (some (.int v)) μ := us_iret dX11_voice_117 rfl
theorem u127_118 {d : Nat} {R : gR} {μ : gM} {l0 l1 l2 l3 : Value} {st : List Value} {x : Nat}  : gc_W (gc_S d) cX11_voice 11 0 R 118 [l0, l1, l2, l3, .ref x] st μ ↔ gc_W (gc_S d) cX11_voice 11 0 R 120 [l0, l1, l2, l3, .ref x] (.ref x :: st) μ := us_aload dX11_voice_118 rfl
theorem u127_120 {d : Nat} {R : gR} {μ : gM} {l1 l2 l3 l4 : Value} {st : List Value} {x : Nat}  : gc_W (gc_S d) cX11_voice 11 0 R 120 [.ref x, l1, l2, l3, l4] st μ ↔ gc_W (gc_S d) cX11_voice 11 0 R 121 [.ref x, l1, l2, l3, l4] (.ref x :: st) μ := us_aload_n dX11_voice_120 rfl
theorem u127_121 {d : Nat} {R : gR} {μ : gM} {L : List Value} {st : List Value} {o : Nat} (hk : gc_kd o = 11) : gc_W (gc_S d) cX11_voice 11 0 R 121 L (.ref o :: st) μ ↔ gc_W (gc_S d) cX11_voice 11 0 R 124 L (gc_fv o 5 μ :: st) μ := us_getf dX11_voice_121 gf_11_64 hk
theorem u127_124 {d : Nat} {R : gR} {μ : gM} {l0 l1 l2 l4 : Value} {st : List Value} {x : Int32}  : gc_W (gc_S d) cX11_voice 11 0 R 124 [l0, l1, l2, .int x, l4] st μ ↔ gc_W (gc_S d) cX11_voice 11 0 R 125 [l0, l1, l2, .int x, l4] (.int x :: st) μ := us_iload_n dX11_voice_124 rfl
theorem u127_125_1 {d : Nat} {R : gR} {μ : gM} {L : List Value} {o : Nat} {a1 : Int32} {a0 : Nat} (hk : gc_kd o = 1) : gc_W (gc_S d) cX11_voice 11 0 R 125 L [.int a1, .ref a0, .ref o] μ ↔ gc_S d 44 [.ref o, .ref a0, .int a1] μ (fun v μ' => gc_W (gc_S d) cX11_voice 11 0 R 128 L (v.toList ++ []) μ') := us_virt dX11_voice_125 gn_11_264 gc_11_264_1 hk rfl rfl rfl rfl rfl
theorem u127_125_3 {d : Nat} {R : gR} {μ : gM} {L : List Value} {o : Nat} {a1 : Int32} {a0 : Nat} (hk : gc_kd o = 3) : gc_W (gc_S d) cX11_voice 11 0 R 125 L [.int a1, .ref a0, .ref o] μ ↔ gc_S d 43 [.ref o, .ref a0, .int a1] μ (fun v μ' => gc_W (gc_S d) cX11_voice 11 0 R 128 L (v.toList ++ []) μ') := us_virt dX11_voice_125 gn_11_264 gc_11_264_3 hk rfl rfl rfl rfl rfl
theorem u127_125_4 {d : Nat} {R : gR} {μ : gM} {L : List Value} {o : Nat} {a1 : Int32} {a0 : Nat} (hk : gc_kd o = 4) : gc_W (gc_S d) cX11_voice 11 0 R 125 L [.int a1, .ref a0, .ref o] μ ↔ gc_S d 42 [.ref o, .ref a0, .int a1] μ (fun v μ' => gc_W (gc_S d) cX11_voice 11 0 R 128 L (v.toList ++ []) μ') := us_virt dX11_voice_125 gn_11_264 gc_11_264_4 hk rfl rfl rfl rfl rfl
theorem u127_125_5 {d : Nat} {R : gR} {μ : gM} {L : List Value} {o : Nat} {a1 : Int32} {a0 : Nat} (hk : gc_kd o = 5) : gc_W (gc_S d) cX11_voice 11 0 R 125 L [.int a1, .ref a0, .ref o] μ ↔ gc_S d 42 [.ref o, .ref a0, .int a1] μ (fun v μ' => gc_W (gc_S d) cX11_voice 11 0 R 128 L (v.toList ++ []) μ') := us_virt dX11_voice_125 gn_11_264 gc_11_264_5 hk rfl rfl rfl rfl rfl
theorem u127_125_6 {d : Nat} {R : gR} {μ : gM} {L : List Value} {o : Nat} {a1 : Int32} {a0 : Nat} (hk : gc_kd o = 6) : gc_W (gc_S d) cX11_voice 11 0 R 125 L [.int a1, .ref a0, .ref o] μ ↔ gc_S d 42 [.ref o, .ref a0, .int a1] μ (fun v μ' => gc_W (gc_S d) cX11_voice 11 0 R 128 L (v.toList ++ []) μ') := us_virt dX11_voice_125 gn_11_264 gc_11_264_6 hk rfl rfl rfl rfl rfl
theorem u127_125_8 {d : Nat} {R : gR} {μ : gM} {L : List Value} {o : Nat} {a1 : Int32} {a0 : Nat} (hk : gc_kd o = 8) : gc_W (gc_S d) cX11_voice 11 0 R 125 L [.int a1, .ref a0, .ref o] μ ↔ gc_S d 42 [.ref o, .ref a0, .int a1] μ (fun v μ' => gc_W (gc_S d) cX11_voice 11 0 R 128 L (v.toList ++ []) μ') := us_virt dX11_voice_125 gn_11_264 gc_11_264_8 hk rfl rfl rfl rfl rfl
theorem u127_125_10 {d : Nat} {R : gR} {μ : gM} {L : List Value} {o : Nat} {a1 : Int32} {a0 : Nat} (hk : gc_kd o = 10) : gc_W (gc_S d) cX11_voice 11 0 R 125 L [.int a1, .ref a0, .ref o] μ ↔ gc_S d 42 [.ref o, .ref a0, .int a1] μ (fun v μ' => gc_W (gc_S d) cX11_voice 11 0 R 128 L (v.toList ++ []) μ') := us_virt dX11_voice_125 gn_11_264 gc_11_264_10 hk rfl rfl rfl rfl rfl
theorem u127_128 {d : Nat} {R : gR} {μ : gM} {L : List Value} {v : Int32}  : gc_W (gc_S d) cX11_voice 11 0 R 128 L [.int v] μ ↔ R (some (.int v)) μ := us_iret dX11_voice_128 rfl
theorem u127_129 {d : Nat} {R : gR} {μ : gM} {l0 l1 l2 l3 : Value} {st : List Value} {x : Nat}  : gc_W (gc_S d) cX11_voice 11 0 R 129 [l0, l1, l2, l3, .ref x] st μ ↔ gc_W (gc_S d) cX11_voice 11 0 R 131 [l0, l1, l2, l3, .ref x] (.ref x :: st) μ := us_aload dX11_voice_129 rfl
theorem u127_131 {d : Nat} {R : gR} {μ : gM} {l1 l2 l3 l4 : Value} {st : List Value} {x : Nat}  : gc_W (gc_S d) cX11_voice 11 0 R 131 [.ref x, l1, l2, l3, l4] st μ ↔ gc_W (gc_S d) cX11_voice 11 0 R 132 [.ref x, l1, l2, l3, l4] (.ref x :: st) μ := us_aload_n dX11_voice_131 rfl
theorem u127_132 {d : Nat} {R : gR} {μ : gM} {L : List Value} {st : List Value} {o : Nat} (hk : gc_kd o = 11) : gc_W (gc_S d) cX11_voice 11 0 R 132 L (.ref o :: st) μ ↔ gc_W (gc_S d) cX11_voice 11 0 R 135 L (gc_fv o 5 μ :: st) μ := us_getf dX11_voice_132 gf_11_64 hk
theorem u127_135 {d : Nat} {R : gR} {μ : gM} {l0 l1 l2 l4 : Value} {st : List Value} {x : Int32}  : gc_W (gc_S d) cX11_voice 11 0 R 135 [l0, l1, l2, .int x, l4] st μ ↔ gc_W (gc_S d) cX11_voice 11 0 R 136 [l0, l1, l2, .int x, l4] (.int x :: st) μ := us_iload_n dX11_voice_135 rfl
theorem u127_136_1 {d : Nat} {R : gR} {μ : gM} {L : List Value} {o : Nat} {a1 : Int32} {a0 : Nat} (hk : gc_kd o = 1) : gc_W (gc_S d) cX11_voice 11 0 R 136 L [.int a1, .ref a0, .ref o] μ ↔ gc_S d 48 [.ref o, .ref a0, .int a1] μ (fun v μ' => gc_W (gc_S d) cX11_voice 11 0 R 139 L (v.toList ++ []) μ') := us_virt dX11_voice_136 gn_11_267 gc_11_267_1 hk rfl rfl rfl rfl rfl
theorem u127_136_3 {d : Nat} {R : gR} {μ : gM} {L : List Value} {o : Nat} {a1 : Int32} {a0 : Nat} (hk : gc_kd o = 3) : gc_W (gc_S d) cX11_voice 11 0 R 136 L [.int a1, .ref a0, .ref o] μ ↔ gc_S d 68 [.ref o, .ref a0, .int a1] μ (fun v μ' => gc_W (gc_S d) cX11_voice 11 0 R 139 L (v.toList ++ []) μ') := us_virt dX11_voice_136 gn_11_267 gc_11_267_3 hk rfl rfl rfl rfl rfl
theorem u127_136_4 {d : Nat} {R : gR} {μ : gM} {L : List Value} {o : Nat} {a1 : Int32} {a0 : Nat} (hk : gc_kd o = 4) : gc_W (gc_S d) cX11_voice 11 0 R 136 L [.int a1, .ref a0, .ref o] μ ↔ gc_S d 68 [.ref o, .ref a0, .int a1] μ (fun v μ' => gc_W (gc_S d) cX11_voice 11 0 R 139 L (v.toList ++ []) μ') := us_virt dX11_voice_136 gn_11_267 gc_11_267_4 hk rfl rfl rfl rfl rfl
theorem u127_136_5 {d : Nat} {R : gR} {μ : gM} {L : List Value} {o : Nat} {a1 : Int32} {a0 : Nat} (hk : gc_kd o = 5) : gc_W (gc_S d) cX11_voice 11 0 R 136 L [.int a1, .ref a0, .ref o] μ ↔ gc_S d 68 [.ref o, .ref a0, .int a1] μ (fun v μ' => gc_W (gc_S d) cX11_voice 11 0 R 139 L (v.toList ++ []) μ') := us_virt dX11_voice_136 gn_11_267 gc_11_267_5 hk rfl rfl rfl rfl rfl
theorem u127_136_6 {d : Nat} {R : gR} {μ : gM} {L : List Value} {o : Nat} {a1 : Int32} {a0 : Nat} (hk : gc_kd o = 6) : gc_W (gc_S d) cX11_voice 11 0 R 136 L [.int a1, .ref a0, .ref o] μ ↔ gc_S d 69 [.ref o, .ref a0, .int a1] μ (fun v μ' => gc_W (gc_S d) cX11_voice 11 0 R 139 L (v.toList ++ []) μ') := us_virt dX11_voice_136 gn_11_267 gc_11_267_6 hk rfl rfl rfl rfl rfl
theorem u127_136_8 {d : Nat} {R : gR} {μ : gM} {L : List Value} {o : Nat} {a1 : Int32} {a0 : Nat} (hk : gc_kd o = 8) : gc_W (gc_S d) cX11_voice 11 0 R 136 L [.int a1, .ref a0, .ref o] μ ↔ gc_S d 68 [.ref o, .ref a0, .int a1] μ (fun v μ' => gc_W (gc_S d) cX11_voice 11 0 R 139 L (v.toList ++ []) μ') := us_virt dX11_voice_136 gn_11_267 gc_11_267_8 hk rfl rfl rfl rfl rfl
theorem u127_136_10 {d : Nat} {R : gR} {μ : gM} {L : List Value} {o : Nat} {a1 : Int32} {a0 : Nat} (hk : gc_kd o = 10) : gc_W (gc_S d) cX11_voice 11 0 R 136 L [.int a1, .ref a0, .ref o] μ ↔ gc_S d 68 [.ref o, .ref a0, .int a1] μ (fun v μ' => gc_W (gc_S d) cX11_voice 11 0 R 139 L (v.toList ++ []) μ') := us_virt dX11_voice_136 gn_11_267 gc_11_267_10 hk rfl rfl rfl rfl rfl
theorem u127_139 {d : Nat} {R : gR} {μ : gM} {L : List Value} {v : Int32}  : gc_W (gc_S d) cX11_voice 11 0 R 139 L [.int v] μ ↔ R (some (.int v)) μ := us_iret dX11_voice_139 rfl
theorem s127 {d : Nat} {R : gR} {μ : gM} {o : Nat} {a0 a1 a2 : Int32} : gc_S (d + 1) 127 [.ref o, .int a0, .int a1, .int a2] μ R ↔ gc_W (gc_S d) cX11_voice 11 0 R 0 [.ref o, .int a0, .int a1, .int a2, .retAddr 0] [] μ := us_call (gm_127) rfl rfl
theorem dX11_trace_0 : decode cX11_trace 0 = .ok (.aload_n 0, 1) := by decide +kernel
theorem dX11_trace_1 : decode cX11_trace 1 = .ok (.getfield 64, 3) := by decide +kernel
theorem dX11_trace_4 : decode cX11_trace 4 = .ok (.getfield 254, 3) := by decide +kernel
theorem dX11_trace_7 : decode cX11_trace 7 = .ok (.iload_n 1, 1) := by decide +kernel
theorem dX11_trace_8 : decode cX11_trace 8 = .ok (.invokevirtual 270, 3) := by decide +kernel
theorem dX11_trace_11 : decode cX11_trace 11 = .ok (.ifCond .eq 18, 3) := by decide +kernel
theorem dX11_trace_14 : decode cX11_trace 14 = .ok (.aload_n 0, 1) := by decide +kernel
theorem dX11_trace_15 : decode cX11_trace 15 = .ok (.getfield 64, 3) := by decide +kernel
theorem dX11_trace_18 : decode cX11_trace 18 = .ok (.getfield 254, 3) := by decide +kernel
theorem dX11_trace_21 : decode cX11_trace 21 = .ok (.getfield 273, 3) := by decide +kernel
theorem dX11_trace_24 : decode cX11_trace 24 = .ok (.iload_n 1, 1) := by decide +kernel
theorem dX11_trace_25 : decode cX11_trace 25 = .ok (.iaload, 1) := by decide +kernel
theorem dX11_trace_26 : decode cX11_trace 26 = .ok (.goto 8, 3) := by decide +kernel
theorem dX11_trace_29 : decode cX11_trace 29 = .ok (.aload_n 0, 1) := by decide +kernel
theorem dX11_trace_30 : decode cX11_trace 30 = .ok (.iconst 2, 1) := by decide +kernel
theorem dX11_trace_31 : decode cX11_trace 31 = .ok (.invokevirtual 88, 3) := by decide +kernel
theorem dX11_trace_34 : decode cX11_trace 34 = .ok (.ireturn, 1) := by decide +kernel
theorem u128_0 {d : Nat} {R : gR} {μ : gM} {l1 : Value} {st : List Value} {x : Nat}  : gc_W (gc_S d) cX11_trace 11 0 R 0 [.ref x, l1] st μ ↔ gc_W (gc_S d) cX11_trace 11 0 R 1 [.ref x, l1] (.ref x :: st) μ := us_aload_n dX11_trace_0 rfl
theorem u128_1 {d : Nat} {R : gR} {μ : gM} {L : List Value} {st : List Value} {o : Nat} (hk : gc_kd o = 11) : gc_W (gc_S d) cX11_trace 11 0 R 1 L (.ref o :: st) μ ↔ gc_W (gc_S d) cX11_trace 11 0 R 4 L (gc_fv o 5 μ :: st) μ := us_getf dX11_trace_1 gf_11_64 hk
theorem u128_4 {d : Nat} {R : gR} {μ : gM} {L : List Value} {st : List Value} {o : Nat} (hk : gc_kd o = 9) : gc_W (gc_S d) cX11_trace 11 0 R 4 L (.ref o :: st) μ ↔ gc_W (gc_S d) cX11_trace 11 0 R 7 L (gc_fv o 0 μ :: st) μ := us_getf dX11_trace_4 gf_11_254 hk
theorem u128_7 {d : Nat} {R : gR} {μ : gM} {l0 : Value} {st : List Value} {x : Int32}  : gc_W (gc_S d) cX11_trace 11 0 R 7 [l0, .int x] st μ ↔ gc_W (gc_S d) cX11_trace 11 0 R 8 [l0, .int x] (.int x :: st) μ := us_iload_n dX11_trace_7 rfl
theorem u128_8 {d : Nat} {R : gR} {μ : gM} {L : List Value} {o : Nat} {a0 : Int32} (hk : gc_kd o = 7) : gc_W (gc_S d) cX11_trace 11 0 R 8 L [.int a0, .ref o] μ ↔ gc_S d 70 [.ref o, .int a0] μ (fun v μ' => gc_W (gc_S d) cX11_trace 11 0 R 11 L (v.toList ++ []) μ') := us_virt dX11_trace_8 gn_11_270 gc_11_270_7 hk rfl rfl rfl rfl rfl
theorem u128_11 {d : Nat} {R : gR} {μ : gM} {L : List Value} {st : List Value} {x : Int32}  : gc_W (gc_S d) cX11_trace 11 0 R 11 L (.int x :: st) μ ↔ if x = 0 then gc_W (gc_S d) cX11_trace 11 0 R 29 L st μ else gc_W (gc_S d) cX11_trace 11 0 R 14 L st μ := us_ifeq dX11_trace_11 rfl
theorem u128_14 {d : Nat} {R : gR} {μ : gM} {l1 : Value} {st : List Value} {x : Nat}  : gc_W (gc_S d) cX11_trace 11 0 R 14 [.ref x, l1] st μ ↔ gc_W (gc_S d) cX11_trace 11 0 R 15 [.ref x, l1] (.ref x :: st) μ := us_aload_n dX11_trace_14 rfl
theorem u128_15 {d : Nat} {R : gR} {μ : gM} {L : List Value} {st : List Value} {o : Nat} (hk : gc_kd o = 11) : gc_W (gc_S d) cX11_trace 11 0 R 15 L (.ref o :: st) μ ↔ gc_W (gc_S d) cX11_trace 11 0 R 18 L (gc_fv o 5 μ :: st) μ := us_getf dX11_trace_15 gf_11_64 hk
theorem u128_18 {d : Nat} {R : gR} {μ : gM} {L : List Value} {st : List Value} {o : Nat} (hk : gc_kd o = 9) : gc_W (gc_S d) cX11_trace 11 0 R 18 L (.ref o :: st) μ ↔ gc_W (gc_S d) cX11_trace 11 0 R 21 L (gc_fv o 0 μ :: st) μ := us_getf dX11_trace_18 gf_11_254 hk
theorem u128_21 {d : Nat} {R : gR} {μ : gM} {L : List Value} {st : List Value} {o : Nat} (hk : gc_kd o = 7) : gc_W (gc_S d) cX11_trace 11 0 R 21 L (.ref o :: st) μ ↔ gc_W (gc_S d) cX11_trace 11 0 R 24 L (gc_fv o 0 μ :: st) μ := us_getf dX11_trace_21 gf_11_273 hk
theorem u128_24 {d : Nat} {R : gR} {μ : gM} {l0 : Value} {st : List Value} {x : Int32}  : gc_W (gc_S d) cX11_trace 11 0 R 24 [l0, .int x] st μ ↔ gc_W (gc_S d) cX11_trace 11 0 R 25 [l0, .int x] (.int x :: st) μ := us_iload_n dX11_trace_24 rfl
theorem u128_25 {d : Nat} {R : gR} {μ : gM} {L : List Value} {st : List Value} {o : Nat} {i : Int32} (hk : gc_kd o = 20) : gc_W (gc_S d) cX11_trace 11 0 R 25 L (.int i :: .ref o :: st) μ ↔ (vp_in i (gc_al o) ∧ gc_W (gc_S d) cX11_trace 11 0 R 26 L (.int (μ o i.toNatClampNeg) :: st) μ) := us_iald dX11_trace_25 hk
theorem u128_26 {d : Nat} {R : gR} {μ : gM} {L : List Value} {st : List Value}  : gc_W (gc_S d) cX11_trace 11 0 R 26 L st μ ↔ gc_W (gc_S d) cX11_trace 11 0 R 34 L st μ := us_goto dX11_trace_26 rfl
theorem u128_29 {d : Nat} {R : gR} {μ : gM} {l1 : Value} {st : List Value} {x : Nat}  : gc_W (gc_S d) cX11_trace 11 0 R 29 [.ref x, l1] st μ ↔ gc_W (gc_S d) cX11_trace 11 0 R 30 [.ref x, l1] (.ref x :: st) μ := us_aload_n dX11_trace_29 rfl
theorem u128_30 {d : Nat} {R : gR} {μ : gM} {L : List Value} {st : List Value}   : gc_W (gc_S d) cX11_trace 11 0 R 30 L st μ ↔ gc_W (gc_S d) cX11_trace 11 0 R 31 L (.int 2 :: st) μ := us_iconst dX11_trace_30 ci_iconst_2
theorem u128_31 {d : Nat} {R : gR} {μ : gM} {L : List Value} {o : Nat} {a0 : Int32} (hk : gc_kd o = 11) : gc_W (gc_S d) cX11_trace 11 0 R 31 L [.int a0, .ref o] μ ↔ gc_S d 75 [.ref o, .int a0] μ (fun v μ' => gc_W (gc_S d) cX11_trace 11 0 R 34 L (v.toList ++ []) μ') := us_virt dX11_trace_31 gn_11_88 gc_11_88_11 hk rfl rfl rfl rfl rfl
theorem u128_34 {d : Nat} {R : gR} {μ : gM} {L : List Value} {v : Int32}  : gc_W (gc_S d) cX11_trace 11 0 R 34 L [.int v] μ ↔ R (some (.int v)) μ := us_iret dX11_trace_34 rfl
theorem s128 {d : Nat} {R : gR} {μ : gM} {o : Nat} {a0 : Int32} : gc_S (d + 1) 128 [.ref o, .int a0] μ R ↔ gc_W (gc_S d) cX11_trace 11 0 R 0 [.ref o, .int a0] [] μ := us_call (gm_128) rfl rfl
theorem dX11_sheet_0 : decode cX11_sheet 0 = .ok (.iload_n 1, 1) := by decide +kernel
theorem dX11_sheet_1 : decode cX11_sheet 1 = .ok (.invokestatic 232, 3) := by decide +kernel
theorem dX11_sheet_4 : decode cX11_sheet 4 = .ok (.ifCond .eq 25, 3) := by decide +kernel
theorem dX11_sheet_7 : decode cX11_sheet 7 = .ok (.iload_n 2, 1) := by decide +kernel
theorem dX11_sheet_8 : decode cX11_sheet 8 = .ok (.ifCond .eq 27, 3) := by decide +kernel
theorem dX11_sheet_11 : decode cX11_sheet 11 = .ok (.iload_n 2, 1) := by decide +kernel
theorem dX11_sheet_12 : decode cX11_sheet 12 = .ok (.bipush 8, 2) := by decide +kernel
theorem dX11_sheet_14 : decode cX11_sheet 14 = .ok (.if_icmp .eq 21, 3) := by decide +kernel
theorem dX11_sheet_17 : decode cX11_sheet 17 = .ok (.iload_n 2, 1) := by decide +kernel
theorem dX11_sheet_18 : decode cX11_sheet 18 = .ok (.bipush 16, 2) := by decide +kernel
theorem dX11_sheet_20 : decode cX11_sheet 20 = .ok (.if_icmp .eq 15, 3) := by decide +kernel
theorem dX11_sheet_23 : decode cX11_sheet 23 = .ok (.iload_n 2, 1) := by decide +kernel
theorem dX11_sheet_24 : decode cX11_sheet 24 = .ok (.bipush 32, 2) := by decide +kernel
theorem dX11_sheet_26 : decode cX11_sheet 26 = .ok (.if_icmp .eq 9, 3) := by decide +kernel
theorem dX11_sheet_29 : decode cX11_sheet 29 = .ok (.aload_n 0, 1) := by decide +kernel
theorem dX11_sheet_30 : decode cX11_sheet 30 = .ok (.iconst 1, 1) := by decide +kernel
theorem dX11_sheet_31 : decode cX11_sheet 31 = .ok (.invokevirtual 88, 3) := by decide +kernel
theorem dX11_sheet_34 : decode cX11_sheet 34 = .ok (.ireturn, 1) := by decide +kernel
theorem dX11_sheet_35 : decode cX11_sheet 35 = .ok (.iload_n 2, 1) := by decide +kernel
theorem dX11_sheet_36 : decode cX11_sheet 36 = .ok (.ifCond .eq 13, 3) := by decide +kernel
theorem dX11_sheet_39 : decode cX11_sheet 39 = .ok (.iload_n 3, 1) := by decide +kernel
theorem dX11_sheet_40 : decode cX11_sheet 40 = .ok (.ifCond .ge 9, 3) := by decide +kernel
theorem dX11_sheet_43 : decode cX11_sheet 43 = .ok (.aload_n 0, 1) := by decide +kernel
theorem dX11_sheet_44 : decode cX11_sheet 44 = .ok (.iconst 3, 1) := by decide +kernel
theorem dX11_sheet_45 : decode cX11_sheet 45 = .ok (.invokevirtual 88, 3) := by decide +kernel
theorem dX11_sheet_48 : decode cX11_sheet 48 = .ok (.ireturn, 1) := by decide +kernel
theorem dX11_sheet_49 : decode cX11_sheet 49 = .ok (.iload_n 2, 1) := by decide +kernel
theorem dX11_sheet_50 : decode cX11_sheet 50 = .ok (.ifCond .eq 15, 3) := by decide +kernel
theorem dX11_sheet_53 : decode cX11_sheet 53 = .ok (.iload_n 3, 1) := by decide +kernel
theorem dX11_sheet_54 : decode cX11_sheet 54 = .ok (.bipush 40, 2) := by decide +kernel
theorem dX11_sheet_56 : decode cX11_sheet 56 = .ok (.if_icmp .le 9, 3) := by decide +kernel
theorem dX11_sheet_59 : decode cX11_sheet 59 = .ok (.aload_n 0, 1) := by decide +kernel
theorem dX11_sheet_60 : decode cX11_sheet 60 = .ok (.iconst 1, 1) := by decide +kernel
theorem dX11_sheet_61 : decode cX11_sheet 61 = .ok (.invokevirtual 88, 3) := by decide +kernel
theorem dX11_sheet_64 : decode cX11_sheet 64 = .ok (.ireturn, 1) := by decide +kernel
theorem dX11_sheet_65 : decode cX11_sheet 65 = .ok (.aload_n 0, 1) := by decide +kernel
theorem dX11_sheet_66 : decode cX11_sheet 66 = .ok (.getfield 54, 3) := by decide +kernel
theorem dX11_sheet_69 : decode cX11_sheet 69 = .ok (.iload_n 1, 1) := by decide +kernel
theorem dX11_sheet_70 : decode cX11_sheet 70 = .ok (.aaload, 1) := by decide +kernel
theorem dX11_sheet_71 : decode cX11_sheet 71 = .ok (.iload_n 2, 1) := by decide +kernel
theorem dX11_sheet_72 : decode cX11_sheet 72 = .ok (.iload_n 2, 1) := by decide +kernel
theorem dX11_sheet_73 : decode cX11_sheet 73 = .ok (.ifCond .ne 7, 3) := by decide +kernel
theorem dX11_sheet_76 : decode cX11_sheet 76 = .ok (.iconst 0, 1) := by decide +kernel
theorem dX11_sheet_77 : decode cX11_sheet 77 = .ok (.goto 4, 3) := by decide +kernel
theorem dX11_sheet_80 : decode cX11_sheet 80 = .ok (.iload_n 3, 1) := by decide +kernel
theorem dX11_sheet_81 : decode cX11_sheet 81 = .ok (.invokevirtual 276, 3) := by decide +kernel
theorem dX11_sheet_84 : decode cX11_sheet 84 = .ok (.iconst 1, 1) := by decide +kernel
theorem dX11_sheet_85 : decode cX11_sheet 85 = .ok (.ireturn, 1) := by decide +kernel
theorem u129_0 {d : Nat} {R : gR} {μ : gM} {l0 l2 l3 : Value} {st : List Value} {x : Int32}  : gc_W (gc_S d) cX11_sheet 11 0 R 0 [l0, .int x, l2, l3] st μ ↔ gc_W (gc_S d) cX11_sheet 11 0 R 1 [l0, .int x, l2, l3] (.int x :: st) μ := us_iload_n dX11_sheet_0 rfl
theorem u129_1 {d : Nat} {R : gR} {μ : gM} {L : List Value}  {a0 : Int32}  : gc_W (gc_S d) cX11_sheet 11 0 R 1 L [.int a0] μ ↔ gc_S d 121 [.int a0] μ (fun v μ' => gc_W (gc_S d) cX11_sheet 11 0 R 4 L (v.toList ++ []) μ') := us_stat dX11_sheet_1 gs_11_232 gne_11_232 gn_11_232 gc_11_232_97 rfl rfl rfl rfl
theorem u129_4 {d : Nat} {R : gR} {μ : gM} {L : List Value} {st : List Value} {x : Int32}  : gc_W (gc_S d) cX11_sheet 11 0 R 4 L (.int x :: st) μ ↔ if x = 0 then gc_W (gc_S d) cX11_sheet 11 0 R 29 L st μ else gc_W (gc_S d) cX11_sheet 11 0 R 7 L st μ := us_ifeq dX11_sheet_4 rfl
theorem u129_7 {d : Nat} {R : gR} {μ : gM} {l0 l1 l3 : Value} {st : List Value} {x : Int32}  : gc_W (gc_S d) cX11_sheet 11 0 R 7 [l0, l1, .int x, l3] st μ ↔ gc_W (gc_S d) cX11_sheet 11 0 R 8 [l0, l1, .int x, l3] (.int x :: st) μ := us_iload_n dX11_sheet_7 rfl
theorem u129_8 {d : Nat} {R : gR} {μ : gM} {L : List Value} {st : List Value} {x : Int32}  : gc_W (gc_S d) cX11_sheet 11 0 R 8 L (.int x :: st) μ ↔ if x = 0 then gc_W (gc_S d) cX11_sheet 11 0 R 35 L st μ else gc_W (gc_S d) cX11_sheet 11 0 R 11 L st μ := us_ifeq dX11_sheet_8 rfl
theorem u129_11 {d : Nat} {R : gR} {μ : gM} {l0 l1 l3 : Value} {st : List Value} {x : Int32}  : gc_W (gc_S d) cX11_sheet 11 0 R 11 [l0, l1, .int x, l3] st μ ↔ gc_W (gc_S d) cX11_sheet 11 0 R 12 [l0, l1, .int x, l3] (.int x :: st) μ := us_iload_n dX11_sheet_11 rfl
theorem u129_12 {d : Nat} {R : gR} {μ : gM} {L : List Value} {st : List Value}   : gc_W (gc_S d) cX11_sheet 11 0 R 12 L st μ ↔ gc_W (gc_S d) cX11_sheet 11 0 R 14 L (.int 8 :: st) μ := us_bipush dX11_sheet_12 ci_bipush_8
theorem u129_14 {d : Nat} {R : gR} {μ : gM} {L : List Value} {st : List Value} {x y : Int32}  : gc_W (gc_S d) cX11_sheet 11 0 R 14 L (.int y :: .int x :: st) μ ↔ if x = y then gc_W (gc_S d) cX11_sheet 11 0 R 35 L st μ else gc_W (gc_S d) cX11_sheet 11 0 R 17 L st μ := us_iceq dX11_sheet_14 rfl
theorem u129_17 {d : Nat} {R : gR} {μ : gM} {l0 l1 l3 : Value} {st : List Value} {x : Int32}  : gc_W (gc_S d) cX11_sheet 11 0 R 17 [l0, l1, .int x, l3] st μ ↔ gc_W (gc_S d) cX11_sheet 11 0 R 18 [l0, l1, .int x, l3] (.int x :: st) μ := us_iload_n dX11_sheet_17 rfl
theorem u129_18 {d : Nat} {R : gR} {μ : gM} {L : List Value} {st : List Value}   : gc_W (gc_S d) cX11_sheet 11 0 R 18 L st μ ↔ gc_W (gc_S d) cX11_sheet 11 0 R 20 L (.int 16 :: st) μ := us_bipush dX11_sheet_18 ci_bipush_16
theorem u129_20 {d : Nat} {R : gR} {μ : gM} {L : List Value} {st : List Value} {x y : Int32}  : gc_W (gc_S d) cX11_sheet 11 0 R 20 L (.int y :: .int x :: st) μ ↔ if x = y then gc_W (gc_S d) cX11_sheet 11 0 R 35 L st μ else gc_W (gc_S d) cX11_sheet 11 0 R 23 L st μ := us_iceq dX11_sheet_20 rfl
theorem u129_23 {d : Nat} {R : gR} {μ : gM} {l0 l1 l3 : Value} {st : List Value} {x : Int32}  : gc_W (gc_S d) cX11_sheet 11 0 R 23 [l0, l1, .int x, l3] st μ ↔ gc_W (gc_S d) cX11_sheet 11 0 R 24 [l0, l1, .int x, l3] (.int x :: st) μ := us_iload_n dX11_sheet_23 rfl
theorem u129_24 {d : Nat} {R : gR} {μ : gM} {L : List Value} {st : List Value}   : gc_W (gc_S d) cX11_sheet 11 0 R 24 L st μ ↔ gc_W (gc_S d) cX11_sheet 11 0 R 26 L (.int 32 :: st) μ := us_bipush dX11_sheet_24 ci_bipush_32
theorem u129_26 {d : Nat} {R : gR} {μ : gM} {L : List Value} {st : List Value} {x y : Int32}  : gc_W (gc_S d) cX11_sheet 11 0 R 26 L (.int y :: .int x :: st) μ ↔ if x = y then gc_W (gc_S d) cX11_sheet 11 0 R 35 L st μ else gc_W (gc_S d) cX11_sheet 11 0 R 29 L st μ := us_iceq dX11_sheet_26 rfl
theorem u129_29 {d : Nat} {R : gR} {μ : gM} {l1 l2 l3 : Value} {st : List Value} {x : Nat}  : gc_W (gc_S d) cX11_sheet 11 0 R 29 [.ref x, l1, l2, l3] st μ ↔ gc_W (gc_S d) cX11_sheet 11 0 R 30 [.ref x, l1, l2, l3] (.ref x :: st) μ := us_aload_n dX11_sheet_29 rfl
theorem u129_30 {d : Nat} {R : gR} {μ : gM} {L : List Value} {st : List Value}   : gc_W (gc_S d) cX11_sheet 11 0 R 30 L st μ ↔ gc_W (gc_S d) cX11_sheet 11 0 R 31 L (.int 1 :: st) μ := us_iconst dX11_sheet_30 ci_iconst_1
theorem u129_31 {d : Nat} {R : gR} {μ : gM} {L : List Value} {o : Nat} {a0 : Int32} (hk : gc_kd o = 11) : gc_W (gc_S d) cX11_sheet 11 0 R 31 L [.int a0, .ref o] μ ↔ gc_S d 75 [.ref o, .int a0] μ (fun v μ' => gc_W (gc_S d) cX11_sheet 11 0 R 34 L (v.toList ++ []) μ') := us_virt dX11_sheet_31 gn_11_88 gc_11_88_11 hk rfl rfl rfl rfl rfl
theorem u129_34 {d : Nat} {R : gR} {μ : gM} {L : List Value} {v : Int32}  : gc_W (gc_S d) cX11_sheet 11 0 R 34 L [.int v] μ ↔ R (some (.int v)) μ := us_iret dX11_sheet_34 rfl
theorem u129_35 {d : Nat} {R : gR} {μ : gM} {l0 l1 l3 : Value} {st : List Value} {x : Int32}  : gc_W (gc_S d) cX11_sheet 11 0 R 35 [l0, l1, .int x, l3] st μ ↔ gc_W (gc_S d) cX11_sheet 11 0 R 36 [l0, l1, .int x, l3] (.int x :: st) μ := us_iload_n dX11_sheet_35 rfl
theorem u129_36 {d : Nat} {R : gR} {μ : gM} {L : List Value} {st : List Value} {x : Int32}  : gc_W (gc_S d) cX11_sheet 11 0 R 36 L (.int x :: st) μ ↔ if x = 0 then gc_W (gc_S d) cX11_sheet 11 0 R 49 L st μ else gc_W (gc_S d) cX11_sheet 11 0 R 39 L st μ := us_ifeq dX11_sheet_36 rfl
theorem u129_39 {d : Nat} {R : gR} {μ : gM} {l0 l1 l2 : Value} {st : List Value} {x : Int32}  : gc_W (gc_S d) cX11_sheet 11 0 R 39 [l0, l1, l2, .int x] st μ ↔ gc_W (gc_S d) cX11_sheet 11 0 R 40 [l0, l1, l2, .int x] (.int x :: st) μ := us_iload_n dX11_sheet_39 rfl
theorem u129_40 {d : Nat} {R : gR} {μ : gM} {L : List Value} {st : List Value} {x : Int32}  : gc_W (gc_S d) cX11_sheet 11 0 R 40 L (.int x :: st) μ ↔ if 0 ≤ x then gc_W (gc_S d) cX11_sheet 11 0 R 49 L st μ else gc_W (gc_S d) cX11_sheet 11 0 R 43 L st μ := us_ifge dX11_sheet_40 rfl
theorem u129_43 {d : Nat} {R : gR} {μ : gM} {l1 l2 l3 : Value} {st : List Value} {x : Nat}  : gc_W (gc_S d) cX11_sheet 11 0 R 43 [.ref x, l1, l2, l3] st μ ↔ gc_W (gc_S d) cX11_sheet 11 0 R 44 [.ref x, l1, l2, l3] (.ref x :: st) μ := us_aload_n dX11_sheet_43 rfl
theorem u129_44 {d : Nat} {R : gR} {μ : gM} {L : List Value} {st : List Value}   : gc_W (gc_S d) cX11_sheet 11 0 R 44 L st μ ↔ gc_W (gc_S d) cX11_sheet 11 0 R 45 L (.int 3 :: st) μ := us_iconst dX11_sheet_44 ci_iconst_3
theorem u129_45 {d : Nat} {R : gR} {μ : gM} {L : List Value} {o : Nat} {a0 : Int32} (hk : gc_kd o = 11) : gc_W (gc_S d) cX11_sheet 11 0 R 45 L [.int a0, .ref o] μ ↔ gc_S d 75 [.ref o, .int a0] μ (fun v μ' => gc_W (gc_S d) cX11_sheet 11 0 R 48 L (v.toList ++ []) μ') := us_virt dX11_sheet_45 gn_11_88 gc_11_88_11 hk rfl rfl rfl rfl rfl
theorem u129_48 {d : Nat} {R : gR} {μ : gM} {L : List Value} {v : Int32}  : gc_W (gc_S d) cX11_sheet 11 0 R 48 L [.int v] μ ↔ R (some (.int v)) μ := us_iret dX11_sheet_48 rfl
theorem u129_49 {d : Nat} {R : gR} {μ : gM} {l0 l1 l3 : Value} {st : List Value} {x : Int32}  : gc_W (gc_S d) cX11_sheet 11 0 R 49 [l0, l1, .int x, l3] st μ ↔ gc_W (gc_S d) cX11_sheet 11 0 R 50 [l0, l1, .int x, l3] (.int x :: st) μ := us_iload_n dX11_sheet_49 rfl
theorem u129_50 {d : Nat} {R : gR} {μ : gM} {L : List Value} {st : List Value} {x : Int32}  : gc_W (gc_S d) cX11_sheet 11 0 R 50 L (.int x :: st) μ ↔ if x = 0 then gc_W (gc_S d) cX11_sheet 11 0 R 65 L st μ else gc_W (gc_S d) cX11_sheet 11 0 R 53 L st μ := us_ifeq dX11_sheet_50 rfl
theorem u129_53 {d : Nat} {R : gR} {μ : gM} {l0 l1 l2 : Value} {st : List Value} {x : Int32}  : gc_W (gc_S d) cX11_sheet 11 0 R 53 [l0, l1, l2, .int x] st μ ↔ gc_W (gc_S d) cX11_sheet 11 0 R 54 [l0, l1, l2, .int x] (.int x :: st) μ := us_iload_n dX11_sheet_53 rfl
theorem u129_54 {d : Nat} {R : gR} {μ : gM} {L : List Value} {st : List Value}   : gc_W (gc_S d) cX11_sheet 11 0 R 54 L st μ ↔ gc_W (gc_S d) cX11_sheet 11 0 R 56 L (.int 40 :: st) μ := us_bipush dX11_sheet_54 ci_bipush_40
theorem u129_56 {d : Nat} {R : gR} {μ : gM} {L : List Value} {st : List Value} {x y : Int32}  : gc_W (gc_S d) cX11_sheet 11 0 R 56 L (.int y :: .int x :: st) μ ↔ if x ≤ y then gc_W (gc_S d) cX11_sheet 11 0 R 65 L st μ else gc_W (gc_S d) cX11_sheet 11 0 R 59 L st μ := us_icle dX11_sheet_56 rfl
theorem u129_59 {d : Nat} {R : gR} {μ : gM} {l1 l2 l3 : Value} {st : List Value} {x : Nat}  : gc_W (gc_S d) cX11_sheet 11 0 R 59 [.ref x, l1, l2, l3] st μ ↔ gc_W (gc_S d) cX11_sheet 11 0 R 60 [.ref x, l1, l2, l3] (.ref x :: st) μ := us_aload_n dX11_sheet_59 rfl
theorem u129_60 {d : Nat} {R : gR} {μ : gM} {L : List Value} {st : List Value}   : gc_W (gc_S d) cX11_sheet 11 0 R 60 L st μ ↔ gc_W (gc_S d) cX11_sheet 11 0 R 61 L (.int 1 :: st) μ := us_iconst dX11_sheet_60 ci_iconst_1
theorem u129_61 {d : Nat} {R : gR} {μ : gM} {L : List Value} {o : Nat} {a0 : Int32} (hk : gc_kd o = 11) : gc_W (gc_S d) cX11_sheet 11 0 R 61 L [.int a0, .ref o] μ ↔ gc_S d 75 [.ref o, .int a0] μ (fun v μ' => gc_W (gc_S d) cX11_sheet 11 0 R 64 L (v.toList ++ []) μ') := us_virt dX11_sheet_61 gn_11_88 gc_11_88_11 hk rfl rfl rfl rfl rfl
theorem u129_64 {d : Nat} {R : gR} {μ : gM} {L : List Value} {v : Int32}  : gc_W (gc_S d) cX11_sheet 11 0 R 64 L [.int v] μ ↔ R (some (.int v)) μ := us_iret dX11_sheet_64 rfl
theorem u129_65 {d : Nat} {R : gR} {μ : gM} {l1 l2 l3 : Value} {st : List Value} {x : Nat}  : gc_W (gc_S d) cX11_sheet 11 0 R 65 [.ref x, l1, l2, l3] st μ ↔ gc_W (gc_S d) cX11_sheet 11 0 R 66 [.ref x, l1, l2, l3] (.ref x :: st) μ := us_aload_n dX11_sheet_65 rfl
theorem u129_66 {d : Nat} {R : gR} {μ : gM} {L : List Value} {st : List Value} {o : Nat} (hk : gc_kd o = 11) : gc_W (gc_S d) cX11_sheet 11 0 R 66 L (.ref o :: st) μ ↔ gc_W (gc_S d) cX11_sheet 11 0 R 69 L (gc_fv o 4 μ :: st) μ := us_getf dX11_sheet_66 gf_11_54 hk
theorem u129_69 {d : Nat} {R : gR} {μ : gM} {l0 l2 l3 : Value} {st : List Value} {x : Int32}  : gc_W (gc_S d) cX11_sheet 11 0 R 69 [l0, .int x, l2, l3] st μ ↔ gc_W (gc_S d) cX11_sheet 11 0 R 70 [l0, .int x, l2, l3] (.int x :: st) μ := us_iload_n dX11_sheet_69 rfl
theorem u129_70 {d : Nat} {R : gR} {μ : gM} {L : List Value} {st : List Value} {o : Nat} {i : Int32} {q : Nat} (hk : gc_kd o = q) (hq : (Nat.ble 22 q && Nat.ble q 24) = true) : gc_W (gc_S d) cX11_sheet 11 0 R 70 L (.int i :: .ref o :: st) μ ↔ (vp_in i (gc_al o) ∧ gc_W (gc_S d) cX11_sheet 11 0 R 71 L (.ref (gc_ra o i.toNatClampNeg) :: st) μ) := us_aald dX11_sheet_70 hk hq
theorem u129_71 {d : Nat} {R : gR} {μ : gM} {l0 l1 l3 : Value} {st : List Value} {x : Int32}  : gc_W (gc_S d) cX11_sheet 11 0 R 71 [l0, l1, .int x, l3] st μ ↔ gc_W (gc_S d) cX11_sheet 11 0 R 72 [l0, l1, .int x, l3] (.int x :: st) μ := us_iload_n dX11_sheet_71 rfl
theorem u129_72 {d : Nat} {R : gR} {μ : gM} {l0 l1 l3 : Value} {st : List Value} {x : Int32}  : gc_W (gc_S d) cX11_sheet 11 0 R 72 [l0, l1, .int x, l3] st μ ↔ gc_W (gc_S d) cX11_sheet 11 0 R 73 [l0, l1, .int x, l3] (.int x :: st) μ := us_iload_n dX11_sheet_72 rfl
theorem u129_73 {d : Nat} {R : gR} {μ : gM} {L : List Value} {st : List Value} {x : Int32}  : gc_W (gc_S d) cX11_sheet 11 0 R 73 L (.int x :: st) μ ↔ if x = 0 then gc_W (gc_S d) cX11_sheet 11 0 R 76 L st μ else gc_W (gc_S d) cX11_sheet 11 0 R 80 L st μ := us_ifne dX11_sheet_73 rfl
theorem u129_76 {d : Nat} {R : gR} {μ : gM} {L : List Value} {st : List Value}   : gc_W (gc_S d) cX11_sheet 11 0 R 76 L st μ ↔ gc_W (gc_S d) cX11_sheet 11 0 R 77 L (.int 0 :: st) μ := us_iconst dX11_sheet_76 ci_iconst_0
theorem u129_77 {d : Nat} {R : gR} {μ : gM} {L : List Value} {st : List Value}  : gc_W (gc_S d) cX11_sheet 11 0 R 77 L st μ ↔ gc_W (gc_S d) cX11_sheet 11 0 R 81 L st μ := us_goto dX11_sheet_77 rfl
theorem u129_80 {d : Nat} {R : gR} {μ : gM} {l0 l1 l2 : Value} {st : List Value} {x : Int32}  : gc_W (gc_S d) cX11_sheet 11 0 R 80 [l0, l1, l2, .int x] st μ ↔ gc_W (gc_S d) cX11_sheet 11 0 R 81 [l0, l1, l2, .int x] (.int x :: st) μ := us_iload_n dX11_sheet_80 rfl
theorem u129_81 {d : Nat} {R : gR} {μ : gM} {L : List Value} {o : Nat} {a0 a1 : Int32} (hk : gc_kd o = 7) : gc_W (gc_S d) cX11_sheet 11 0 R 81 L [.int a1, .int a0, .ref o] μ ↔ gc_S d 72 [.ref o, .int a0, .int a1] μ (fun v μ' => gc_W (gc_S d) cX11_sheet 11 0 R 84 L (v.toList ++ []) μ') := us_virt dX11_sheet_81 gn_11_276 gc_11_276_7 hk rfl rfl rfl rfl rfl
theorem u129_84 {d : Nat} {R : gR} {μ : gM} {L : List Value} {st : List Value}   : gc_W (gc_S d) cX11_sheet 11 0 R 84 L st μ ↔ gc_W (gc_S d) cX11_sheet 11 0 R 85 L (.int 1 :: st) μ := us_iconst dX11_sheet_84 ci_iconst_1
theorem u129_85 {d : Nat} {R : gR} {μ : gM} {L : List Value} {v : Int32}  : gc_W (gc_S d) cX11_sheet 11 0 R 85 L [.int v] μ ↔ R (some (.int v)) μ := us_iret dX11_sheet_85 rfl
theorem s129 {d : Nat} {R : gR} {μ : gM} {o : Nat} {a0 a1 a2 : Int32} : gc_S (d + 1) 129 [.ref o, .int a0, .int a1, .int a2] μ R ↔ gc_W (gc_S d) cX11_sheet 11 0 R 0 [.ref o, .int a0, .int a1, .int a2] [] μ := us_call (gm_129) rfl rfl
theorem dX11_lowestBits_0 : decode cX11_lowestBits 0 = .ok (.iload_n 1, 1) := by decide +kernel
theorem dX11_lowestBits_1 : decode cX11_lowestBits 1 = .ok (.lookupswitch 33 #[(8, 27), (16, 30)], 27) := by decide +kernel
theorem dX11_lowestBits_28 : decode cX11_lowestBits 28 = .ok (.iload_n 0, 1) := by decide +kernel
theorem dX11_lowestBits_29 : decode cX11_lowestBits 29 = .ok (.i2b, 1) := by decide +kernel
theorem dX11_lowestBits_30 : decode cX11_lowestBits 30 = .ok (.ireturn, 1) := by decide +kernel
theorem dX11_lowestBits_31 : decode cX11_lowestBits 31 = .ok (.iload_n 0, 1) := by decide +kernel
theorem dX11_lowestBits_32 : decode cX11_lowestBits 32 = .ok (.i2s, 1) := by decide +kernel
theorem dX11_lowestBits_33 : decode cX11_lowestBits 33 = .ok (.ireturn, 1) := by decide +kernel
theorem dX11_lowestBits_34 : decode cX11_lowestBits 34 = .ok (.iload_n 0, 1) := by decide +kernel
theorem dX11_lowestBits_35 : decode cX11_lowestBits 35 = .ok (.ireturn, 1) := by decide +kernel
theorem u130_0 {d : Nat} {R : gR} {μ : gM} {l0 : Value} {st : List Value} {x : Int32}  : gc_W (gc_S d) cX11_lowestBits 11 0 R 0 [l0, .int x] st μ ↔ gc_W (gc_S d) cX11_lowestBits 11 0 R 1 [l0, .int x] (.int x :: st) μ := us_iload_n dX11_lowestBits_0 rfl
theorem u130_1 {d : Nat} {R : gR} {μ : gM} {L : List Value} {st : List Value} {x : Int32}  : gc_W (gc_S d) cX11_lowestBits 11 0 R 1 L (.int x :: st) μ ↔ if x = 8 then gc_W (gc_S d) cX11_lowestBits 11 0 R 28 L st μ else (if x = 16 then gc_W (gc_S d) cX11_lowestBits 11 0 R 31 L st μ else (gc_W (gc_S d) cX11_lowestBits 11 0 R 34 L st μ)) := us_lsw [(8, 28), (16, 31)] dX11_lowestBits_1 (by decide +kernel) (by decide +kernel) (dt := 34) rfl
theorem u130_28 {d : Nat} {R : gR} {μ : gM} {l1 : Value} {st : List Value} {x : Int32}  : gc_W (gc_S d) cX11_lowestBits 11 0 R 28 [.int x, l1] st μ ↔ gc_W (gc_S d) cX11_lowestBits 11 0 R 29 [.int x, l1] (.int x :: st) μ := us_iload_n dX11_lowestBits_28 rfl
theorem u130_29 {d : Nat} {R : gR} {μ : gM} {L : List Value} {st : List Value} {x : Int32}  : gc_W (gc_S d) cX11_lowestBits 11 0 R 29 L (.int x :: st) μ ↔ gc_W (gc_S d) cX11_lowestBits 11 0 R 30 L (.int (x.toInt8.toInt32) :: st) μ := us_i2b dX11_lowestBits_29
theorem u130_30 {d : Nat} {R : gR} {μ : gM} {L : List Value} {v : Int32}  : gc_W (gc_S d) cX11_lowestBits 11 0 R 30 L [.int v] μ ↔ R (some (.int v)) μ := us_iret dX11_lowestBits_30 rfl
theorem u130_31 {d : Nat} {R : gR} {μ : gM} {l1 : Value} {st : List Value} {x : Int32}  : gc_W (gc_S d) cX11_lowestBits 11 0 R 31 [.int x, l1] st μ ↔ gc_W (gc_S d) cX11_lowestBits 11 0 R 32 [.int x, l1] (.int x :: st) μ := us_iload_n dX11_lowestBits_31 rfl
theorem u130_32 {d : Nat} {R : gR} {μ : gM} {L : List Value} {st : List Value} {x : Int32}  : gc_W (gc_S d) cX11_lowestBits 11 0 R 32 L (.int x :: st) μ ↔ gc_W (gc_S d) cX11_lowestBits 11 0 R 33 L (.int (x.toInt16.toInt32) :: st) μ := us_i2s dX11_lowestBits_32
theorem u130_33 {d : Nat} {R : gR} {μ : gM} {L : List Value} {v : Int32}  : gc_W (gc_S d) cX11_lowestBits 11 0 R 33 L [.int v] μ ↔ R (some (.int v)) μ := us_iret dX11_lowestBits_33 rfl
theorem u130_34 {d : Nat} {R : gR} {μ : gM} {l1 : Value} {st : List Value} {x : Int32}  : gc_W (gc_S d) cX11_lowestBits 11 0 R 34 [.int x, l1] st μ ↔ gc_W (gc_S d) cX11_lowestBits 11 0 R 35 [.int x, l1] (.int x :: st) μ := us_iload_n dX11_lowestBits_34 rfl
theorem u130_35 {d : Nat} {R : gR} {μ : gM} {L : List Value} {v : Int32}  : gc_W (gc_S d) cX11_lowestBits 11 0 R 35 L [.int v] μ ↔ R (some (.int v)) μ := us_iret dX11_lowestBits_35 rfl
theorem s130 {d : Nat} {R : gR} {μ : gM} {a0 a1 : Int32} : gc_S (d + 1) 130 [.int a0, .int a1] μ R ↔ gc_W (gc_S d) cX11_lowestBits 11 0 R 0 [.int a0, .int a1] [] μ := us_call (gm_130) rfl rfl
theorem dX11_put_0 : decode cX11_put 0 = .ok (.iload_n 1, 1) := by decide +kernel
theorem dX11_put_1 : decode cX11_put 1 = .ok (.invokestatic 232, 3) := by decide +kernel
theorem dX11_put_4 : decode cX11_put 4 = .ok (.ifCond .ne 9, 3) := by decide +kernel
theorem dX11_put_7 : decode cX11_put 7 = .ok (.aload_n 0, 1) := by decide +kernel
theorem dX11_put_8 : decode cX11_put 8 = .ok (.iconst 1, 1) := by decide +kernel
theorem dX11_put_9 : decode cX11_put 9 = .ok (.invokevirtual 88, 3) := by decide +kernel
theorem dX11_put_12 : decode cX11_put 12 = .ok (.ireturn, 1) := by decide +kernel
theorem dX11_put_13 : decode cX11_put 13 = .ok (.aload_n 0, 1) := by decide +kernel
theorem dX11_put_14 : decode cX11_put 14 = .ok (.getfield 54, 3) := by decide +kernel
theorem dX11_put_17 : decode cX11_put 17 = .ok (.iload_n 1, 1) := by decide +kernel
theorem dX11_put_18 : decode cX11_put 18 = .ok (.aaload, 1) := by decide +kernel
theorem dX11_put_19 : decode cX11_put 19 = .ok (.astore 4, 2) := by decide +kernel
theorem dX11_put_21 : decode cX11_put 21 = .ok (.aload 4, 2) := by decide +kernel
theorem dX11_put_23 : decode cX11_put 23 = .ok (.getfield 235, 3) := by decide +kernel
theorem dX11_put_26 : decode cX11_put 26 = .ok (.ifCond .ne 9, 3) := by decide +kernel
theorem dX11_put_29 : decode cX11_put 29 = .ok (.aload_n 0, 1) := by decide +kernel
theorem dX11_put_30 : decode cX11_put 30 = .ok (.iconst 2, 1) := by decide +kernel
theorem dX11_put_31 : decode cX11_put 31 = .ok (.invokevirtual 88, 3) := by decide +kernel
theorem dX11_put_34 : decode cX11_put 34 = .ok (.ireturn, 1) := by decide +kernel
theorem dX11_put_35 : decode cX11_put 35 = .ok (.aload 4, 2) := by decide +kernel
theorem dX11_put_37 : decode cX11_put 37 = .ok (.iload_n 2, 1) := by decide +kernel
theorem dX11_put_38 : decode cX11_put 38 = .ok (.invokevirtual 270, 3) := by decide +kernel
theorem dX11_put_41 : decode cX11_put 41 = .ok (.ifCond .ne 9, 3) := by decide +kernel
theorem dX11_put_44 : decode cX11_put 44 = .ok (.aload_n 0, 1) := by decide +kernel
theorem dX11_put_45 : decode cX11_put 45 = .ok (.iconst 1, 1) := by decide +kernel
theorem dX11_put_46 : decode cX11_put 46 = .ok (.invokevirtual 88, 3) := by decide +kernel
theorem dX11_put_49 : decode cX11_put 49 = .ok (.ireturn, 1) := by decide +kernel
theorem dX11_put_50 : decode cX11_put 50 = .ok (.aload 4, 2) := by decide +kernel
theorem dX11_put_52 : decode cX11_put 52 = .ok (.getfield 273, 3) := by decide +kernel
theorem dX11_put_55 : decode cX11_put 55 = .ok (.iload_n 2, 1) := by decide +kernel
theorem dX11_put_56 : decode cX11_put 56 = .ok (.iload_n 3, 1) := by decide +kernel
theorem dX11_put_57 : decode cX11_put 57 = .ok (.aload 4, 2) := by decide +kernel
theorem dX11_put_59 : decode cX11_put 59 = .ok (.getfield 235, 3) := by decide +kernel
theorem dX11_put_62 : decode cX11_put 62 = .ok (.invokestatic 280, 3) := by decide +kernel
theorem dX11_put_65 : decode cX11_put 65 = .ok (.iastore, 1) := by decide +kernel
theorem dX11_put_66 : decode cX11_put 66 = .ok (.iconst 1, 1) := by decide +kernel
theorem dX11_put_67 : decode cX11_put 67 = .ok (.ireturn, 1) := by decide +kernel
theorem u131_0 {d : Nat} {R : gR} {μ : gM} {l0 l2 l3 l4 : Value} {st : List Value} {x : Int32}  : gc_W (gc_S d) cX11_put 11 0 R 0 [l0, .int x, l2, l3, l4] st μ ↔ gc_W (gc_S d) cX11_put 11 0 R 1 [l0, .int x, l2, l3, l4] (.int x :: st) μ := us_iload_n dX11_put_0 rfl
theorem u131_1 {d : Nat} {R : gR} {μ : gM} {L : List Value}  {a0 : Int32}  : gc_W (gc_S d) cX11_put 11 0 R 1 L [.int a0] μ ↔ gc_S d 121 [.int a0] μ (fun v μ' => gc_W (gc_S d) cX11_put 11 0 R 4 L (v.toList ++ []) μ') := us_stat dX11_put_1 gs_11_232 gne_11_232 gn_11_232 gc_11_232_97 rfl rfl rfl rfl
theorem u131_4 {d : Nat} {R : gR} {μ : gM} {L : List Value} {st : List Value} {x : Int32}  : gc_W (gc_S d) cX11_put 11 0 R 4 L (.int x :: st) μ ↔ if x = 0 then gc_W (gc_S d) cX11_put 11 0 R 7 L st μ else gc_W (gc_S d) cX11_put 11 0 R 13 L st μ := us_ifne dX11_put_4 rfl
theorem u131_7 {d : Nat} {R : gR} {μ : gM} {l1 l2 l3 l4 : Value} {st : List Value} {x : Nat}  : gc_W (gc_S d) cX11_put 11 0 R 7 [.ref x, l1, l2, l3, l4] st μ ↔ gc_W (gc_S d) cX11_put 11 0 R 8 [.ref x, l1, l2, l3, l4] (.ref x :: st) μ := us_aload_n dX11_put_7 rfl
theorem u131_8 {d : Nat} {R : gR} {μ : gM} {L : List Value} {st : List Value}   : gc_W (gc_S d) cX11_put 11 0 R 8 L st μ ↔ gc_W (gc_S d) cX11_put 11 0 R 9 L (.int 1 :: st) μ := us_iconst dX11_put_8 ci_iconst_1
theorem u131_9 {d : Nat} {R : gR} {μ : gM} {L : List Value} {o : Nat} {a0 : Int32} (hk : gc_kd o = 11) : gc_W (gc_S d) cX11_put 11 0 R 9 L [.int a0, .ref o] μ ↔ gc_S d 75 [.ref o, .int a0] μ (fun v μ' => gc_W (gc_S d) cX11_put 11 0 R 12 L (v.toList ++ []) μ') := us_virt dX11_put_9 gn_11_88 gc_11_88_11 hk rfl rfl rfl rfl rfl
theorem u131_12 {d : Nat} {R : gR} {μ : gM} {L : List Value} {v : Int32}  : gc_W (gc_S d) cX11_put 11 0 R 12 L [.int v] μ ↔ R (some (.int v)) μ := us_iret dX11_put_12 rfl
theorem u131_13 {d : Nat} {R : gR} {μ : gM} {l1 l2 l3 l4 : Value} {st : List Value} {x : Nat}  : gc_W (gc_S d) cX11_put 11 0 R 13 [.ref x, l1, l2, l3, l4] st μ ↔ gc_W (gc_S d) cX11_put 11 0 R 14 [.ref x, l1, l2, l3, l4] (.ref x :: st) μ := us_aload_n dX11_put_13 rfl
theorem u131_14 {d : Nat} {R : gR} {μ : gM} {L : List Value} {st : List Value} {o : Nat} (hk : gc_kd o = 11) : gc_W (gc_S d) cX11_put 11 0 R 14 L (.ref o :: st) μ ↔ gc_W (gc_S d) cX11_put 11 0 R 17 L (gc_fv o 4 μ :: st) μ := us_getf dX11_put_14 gf_11_54 hk
theorem u131_17 {d : Nat} {R : gR} {μ : gM} {l0 l2 l3 l4 : Value} {st : List Value} {x : Int32}  : gc_W (gc_S d) cX11_put 11 0 R 17 [l0, .int x, l2, l3, l4] st μ ↔ gc_W (gc_S d) cX11_put 11 0 R 18 [l0, .int x, l2, l3, l4] (.int x :: st) μ := us_iload_n dX11_put_17 rfl
theorem u131_18 {d : Nat} {R : gR} {μ : gM} {L : List Value} {st : List Value} {o : Nat} {i : Int32} {q : Nat} (hk : gc_kd o = q) (hq : (Nat.ble 22 q && Nat.ble q 24) = true) : gc_W (gc_S d) cX11_put 11 0 R 18 L (.int i :: .ref o :: st) μ ↔ (vp_in i (gc_al o) ∧ gc_W (gc_S d) cX11_put 11 0 R 19 L (.ref (gc_ra o i.toNatClampNeg) :: st) μ) := us_aald dX11_put_18 hk hq
theorem u131_19 {d : Nat} {R : gR} {μ : gM} {l0 l1 l2 l3 l4 : Value} {st : List Value} {x : Nat} (hs : gc_sk l4 = true) : gc_W (gc_S d) cX11_put 11 0 R 19 [l0, l1, l2, l3, l4] (.ref x :: st) μ ↔ gc_W (gc_S d) cX11_put 11 0 R 21 [l0, l1, l2, l3, .ref x] st μ := us_astore dX11_put_19 rfl hs
theorem u131_21 {d : Nat} {R : gR} {μ : gM} {l0 l1 l2 l3 : Value} {st : List Value} {x : Nat}  : gc_W (gc_S d) cX11_put 11 0 R 21 [l0, l1, l2, l3, .ref x] st μ ↔ gc_W (gc_S d) cX11_put 11 0 R 23 [l0, l1, l2, l3, .ref x] (.ref x :: st) μ := us_aload dX11_put_21 rfl
theorem u131_23 {d : Nat} {R : gR} {μ : gM} {L : List Value} {st : List Value} {o : Nat} (hk : gc_kd o = 7) : gc_W (gc_S d) cX11_put 11 0 R 23 L (.ref o :: st) μ ↔ gc_W (gc_S d) cX11_put 11 0 R 26 L (gc_fv o 2 μ :: st) μ := us_getf dX11_put_23 gf_11_235 hk
theorem u131_26 {d : Nat} {R : gR} {μ : gM} {L : List Value} {st : List Value} {x : Int32}  : gc_W (gc_S d) cX11_put 11 0 R 26 L (.int x :: st) μ ↔ if x = 0 then gc_W (gc_S d) cX11_put 11 0 R 29 L st μ else gc_W (gc_S d) cX11_put 11 0 R 35 L st μ := us_ifne dX11_put_26 rfl
theorem u131_29 {d : Nat} {R : gR} {μ : gM} {l1 l2 l3 l4 : Value} {st : List Value} {x : Nat}  : gc_W (gc_S d) cX11_put 11 0 R 29 [.ref x, l1, l2, l3, l4] st μ ↔ gc_W (gc_S d) cX11_put 11 0 R 30 [.ref x, l1, l2, l3, l4] (.ref x :: st) μ := us_aload_n dX11_put_29 rfl
theorem u131_30 {d : Nat} {R : gR} {μ : gM} {L : List Value} {st : List Value}   : gc_W (gc_S d) cX11_put 11 0 R 30 L st μ ↔ gc_W (gc_S d) cX11_put 11 0 R 31 L (.int 2 :: st) μ := us_iconst dX11_put_30 ci_iconst_2
theorem u131_31 {d : Nat} {R : gR} {μ : gM} {L : List Value} {o : Nat} {a0 : Int32} (hk : gc_kd o = 11) : gc_W (gc_S d) cX11_put 11 0 R 31 L [.int a0, .ref o] μ ↔ gc_S d 75 [.ref o, .int a0] μ (fun v μ' => gc_W (gc_S d) cX11_put 11 0 R 34 L (v.toList ++ []) μ') := us_virt dX11_put_31 gn_11_88 gc_11_88_11 hk rfl rfl rfl rfl rfl
theorem u131_34 {d : Nat} {R : gR} {μ : gM} {L : List Value} {v : Int32}  : gc_W (gc_S d) cX11_put 11 0 R 34 L [.int v] μ ↔ R (some (.int v)) μ := us_iret dX11_put_34 rfl
theorem u131_35 {d : Nat} {R : gR} {μ : gM} {l0 l1 l2 l3 : Value} {st : List Value} {x : Nat}  : gc_W (gc_S d) cX11_put 11 0 R 35 [l0, l1, l2, l3, .ref x] st μ ↔ gc_W (gc_S d) cX11_put 11 0 R 37 [l0, l1, l2, l3, .ref x] (.ref x :: st) μ := us_aload dX11_put_35 rfl
theorem u131_37 {d : Nat} {R : gR} {μ : gM} {l0 l1 l3 l4 : Value} {st : List Value} {x : Int32}  : gc_W (gc_S d) cX11_put 11 0 R 37 [l0, l1, .int x, l3, l4] st μ ↔ gc_W (gc_S d) cX11_put 11 0 R 38 [l0, l1, .int x, l3, l4] (.int x :: st) μ := us_iload_n dX11_put_37 rfl
theorem u131_38 {d : Nat} {R : gR} {μ : gM} {L : List Value} {o : Nat} {a0 : Int32} (hk : gc_kd o = 7) : gc_W (gc_S d) cX11_put 11 0 R 38 L [.int a0, .ref o] μ ↔ gc_S d 70 [.ref o, .int a0] μ (fun v μ' => gc_W (gc_S d) cX11_put 11 0 R 41 L (v.toList ++ []) μ') := us_virt dX11_put_38 gn_11_270 gc_11_270_7 hk rfl rfl rfl rfl rfl
theorem u131_41 {d : Nat} {R : gR} {μ : gM} {L : List Value} {st : List Value} {x : Int32}  : gc_W (gc_S d) cX11_put 11 0 R 41 L (.int x :: st) μ ↔ if x = 0 then gc_W (gc_S d) cX11_put 11 0 R 44 L st μ else gc_W (gc_S d) cX11_put 11 0 R 50 L st μ := us_ifne dX11_put_41 rfl
theorem u131_44 {d : Nat} {R : gR} {μ : gM} {l1 l2 l3 l4 : Value} {st : List Value} {x : Nat}  : gc_W (gc_S d) cX11_put 11 0 R 44 [.ref x, l1, l2, l3, l4] st μ ↔ gc_W (gc_S d) cX11_put 11 0 R 45 [.ref x, l1, l2, l3, l4] (.ref x :: st) μ := us_aload_n dX11_put_44 rfl
theorem u131_45 {d : Nat} {R : gR} {μ : gM} {L : List Value} {st : List Value}   : gc_W (gc_S d) cX11_put 11 0 R 45 L st μ ↔ gc_W (gc_S d) cX11_put 11 0 R 46 L (.int 1 :: st) μ := us_iconst dX11_put_45 ci_iconst_1
theorem u131_46 {d : Nat} {R : gR} {μ : gM} {L : List Value} {o : Nat} {a0 : Int32} (hk : gc_kd o = 11) : gc_W (gc_S d) cX11_put 11 0 R 46 L [.int a0, .ref o] μ ↔ gc_S d 75 [.ref o, .int a0] μ (fun v μ' => gc_W (gc_S d) cX11_put 11 0 R 49 L (v.toList ++ []) μ') := us_virt dX11_put_46 gn_11_88 gc_11_88_11 hk rfl rfl rfl rfl rfl
theorem u131_49 {d : Nat} {R : gR} {μ : gM} {L : List Value} {v : Int32}  : gc_W (gc_S d) cX11_put 11 0 R 49 L [.int v] μ ↔ R (some (.int v)) μ := us_iret dX11_put_49 rfl
theorem u131_50 {d : Nat} {R : gR} {μ : gM} {l0 l1 l2 l3 : Value} {st : List Value} {x : Nat}  : gc_W (gc_S d) cX11_put 11 0 R 50 [l0, l1, l2, l3, .ref x] st μ ↔ gc_W (gc_S d) cX11_put 11 0 R 52 [l0, l1, l2, l3, .ref x] (.ref x :: st) μ := us_aload dX11_put_50 rfl
theorem u131_52 {d : Nat} {R : gR} {μ : gM} {L : List Value} {st : List Value} {o : Nat} (hk : gc_kd o = 7) : gc_W (gc_S d) cX11_put 11 0 R 52 L (.ref o :: st) μ ↔ gc_W (gc_S d) cX11_put 11 0 R 55 L (gc_fv o 0 μ :: st) μ := us_getf dX11_put_52 gf_11_273 hk
theorem u131_55 {d : Nat} {R : gR} {μ : gM} {l0 l1 l3 l4 : Value} {st : List Value} {x : Int32}  : gc_W (gc_S d) cX11_put 11 0 R 55 [l0, l1, .int x, l3, l4] st μ ↔ gc_W (gc_S d) cX11_put 11 0 R 56 [l0, l1, .int x, l3, l4] (.int x :: st) μ := us_iload_n dX11_put_55 rfl
theorem u131_56 {d : Nat} {R : gR} {μ : gM} {l0 l1 l2 l4 : Value} {st : List Value} {x : Int32}  : gc_W (gc_S d) cX11_put 11 0 R 56 [l0, l1, l2, .int x, l4] st μ ↔ gc_W (gc_S d) cX11_put 11 0 R 57 [l0, l1, l2, .int x, l4] (.int x :: st) μ := us_iload_n dX11_put_56 rfl
theorem u131_57 {d : Nat} {R : gR} {μ : gM} {l0 l1 l2 l3 : Value} {st : List Value} {x : Nat}  : gc_W (gc_S d) cX11_put 11 0 R 57 [l0, l1, l2, l3, .ref x] st μ ↔ gc_W (gc_S d) cX11_put 11 0 R 59 [l0, l1, l2, l3, .ref x] (.ref x :: st) μ := us_aload dX11_put_57 rfl
theorem u131_59 {d : Nat} {R : gR} {μ : gM} {L : List Value} {st : List Value} {o : Nat} (hk : gc_kd o = 7) : gc_W (gc_S d) cX11_put 11 0 R 59 L (.ref o :: st) μ ↔ gc_W (gc_S d) cX11_put 11 0 R 62 L (gc_fv o 2 μ :: st) μ := us_getf dX11_put_59 gf_11_235 hk
theorem u131_62 {d : Nat} {R : gR} {μ : gM} {L : List Value}  {a0 a1 : Int32} {s0 s1 : Value}  : gc_W (gc_S d) cX11_put 11 0 R 62 L [.int a1, .int a0, s0, s1] μ ↔ gc_S d 130 [.int a0, .int a1] μ (fun v μ' => gc_W (gc_S d) cX11_put 11 0 R 65 L (v.toList ++ [s0, s1]) μ') := us_stat dX11_put_62 gs_11_280 gne_11_280 gn_11_280 gc_11_280_97 rfl rfl rfl rfl
theorem u131_65 {d : Nat} {R : gR} {μ : gM} {L : List Value} {st : List Value} {o : Nat} {i x : Int32} (hk : gc_kd o = 20) : gc_W (gc_S d) cX11_put 11 0 R 65 L (.int x :: .int i :: .ref o :: st) μ ↔ (vp_in i (gc_al o) ∧ gc_W (gc_S d) cX11_put 11 0 R 66 L st (gc_up μ o i.toNatClampNeg x)) := us_iast dX11_put_65 hk
theorem u131_66 {d : Nat} {R : gR} {μ : gM} {L : List Value} {st : List Value}   : gc_W (gc_S d) cX11_put 11 0 R 66 L st μ ↔ gc_W (gc_S d) cX11_put 11 0 R 67 L (.int 1 :: st) μ := us_iconst dX11_put_66 ci_iconst_1
theorem u131_67 {d : Nat} {R : gR} {μ : gM} {L : List Value} {v : Int32}  : gc_W (gc_S d) cX11_put 11 0 R 67 L [.int v] μ ↔ R (some (.int v)) μ := us_iret dX11_put_67 rfl
theorem s131 {d : Nat} {R : gR} {μ : gM} {o : Nat} {a0 a1 a2 : Int32} : gc_S (d + 1) 131 [.ref o, .int a0, .int a1, .int a2] μ R ↔ gc_W (gc_S d) cX11_put 11 0 R 0 [.ref o, .int a0, .int a1, .int a2, .retAddr 0] [] μ := us_call (gm_131) rfl rfl
theorem dX11_move_0 : decode cX11_move 0 = .ok (.iload_n 1, 1) := by decide +kernel
theorem dX11_move_1 : decode cX11_move 1 = .ok (.invokestatic 232, 3) := by decide +kernel
theorem dX11_move_4 : decode cX11_move 4 = .ok (.ifCond .eq 10, 3) := by decide +kernel
theorem dX11_move_7 : decode cX11_move 7 = .ok (.iload_n 3, 1) := by decide +kernel
theorem dX11_move_8 : decode cX11_move 8 = .ok (.invokestatic 232, 3) := by decide +kernel
theorem dX11_move_11 : decode cX11_move 11 = .ok (.ifCond .ne 9, 3) := by decide +kernel
theorem dX11_move_14 : decode cX11_move 14 = .ok (.aload_n 0, 1) := by decide +kernel
theorem dX11_move_15 : decode cX11_move 15 = .ok (.iconst 1, 1) := by decide +kernel
theorem dX11_move_16 : decode cX11_move 16 = .ok (.invokevirtual 88, 3) := by decide +kernel
theorem dX11_move_19 : decode cX11_move 19 = .ok (.ireturn, 1) := by decide +kernel
theorem dX11_move_20 : decode cX11_move 20 = .ok (.aload_n 0, 1) := by decide +kernel
theorem dX11_move_21 : decode cX11_move 21 = .ok (.getfield 54, 3) := by decide +kernel
theorem dX11_move_24 : decode cX11_move 24 = .ok (.iload_n 1, 1) := by decide +kernel
theorem dX11_move_25 : decode cX11_move 25 = .ok (.aaload, 1) := by decide +kernel
theorem dX11_move_26 : decode cX11_move 26 = .ok (.astore 6, 2) := by decide +kernel
theorem dX11_move_28 : decode cX11_move 28 = .ok (.aload_n 0, 1) := by decide +kernel
theorem dX11_move_29 : decode cX11_move 29 = .ok (.getfield 54, 3) := by decide +kernel
theorem dX11_move_32 : decode cX11_move 32 = .ok (.iload_n 3, 1) := by decide +kernel
theorem dX11_move_33 : decode cX11_move 33 = .ok (.aaload, 1) := by decide +kernel
theorem dX11_move_34 : decode cX11_move 34 = .ok (.astore 7, 2) := by decide +kernel
theorem dX11_move_36 : decode cX11_move 36 = .ok (.aload 6, 2) := by decide +kernel
theorem dX11_move_38 : decode cX11_move 38 = .ok (.getfield 235, 3) := by decide +kernel
theorem dX11_move_41 : decode cX11_move 41 = .ok (.ifCond .eq 11, 3) := by decide +kernel
theorem dX11_move_44 : decode cX11_move 44 = .ok (.aload 7, 2) := by decide +kernel
theorem dX11_move_46 : decode cX11_move 46 = .ok (.getfield 235, 3) := by decide +kernel
theorem dX11_move_49 : decode cX11_move 49 = .ok (.ifCond .ne 9, 3) := by decide +kernel
theorem dX11_move_52 : decode cX11_move 52 = .ok (.aload_n 0, 1) := by decide +kernel
theorem dX11_move_53 : decode cX11_move 53 = .ok (.iconst 2, 1) := by decide +kernel
theorem dX11_move_54 : decode cX11_move 54 = .ok (.invokevirtual 88, 3) := by decide +kernel
theorem dX11_move_57 : decode cX11_move 57 = .ok (.ireturn, 1) := by decide +kernel
theorem dX11_move_58 : decode cX11_move 58 = .ok (.aload 6, 2) := by decide +kernel
theorem dX11_move_60 : decode cX11_move 60 = .ok (.getfield 235, 3) := by decide +kernel
theorem dX11_move_63 : decode cX11_move 63 = .ok (.aload 7, 2) := by decide +kernel
theorem dX11_move_65 : decode cX11_move 65 = .ok (.getfield 235, 3) := by decide +kernel
theorem dX11_move_68 : decode cX11_move 68 = .ok (.if_icmp .eq 9, 3) := by decide +kernel
theorem dX11_move_71 : decode cX11_move 71 = .ok (.aload_n 0, 1) := by decide +kernel
theorem dX11_move_72 : decode cX11_move 72 = .ok (.iconst 5, 1) := by decide +kernel
theorem dX11_move_73 : decode cX11_move 73 = .ok (.invokevirtual 88, 3) := by decide +kernel
theorem dX11_move_76 : decode cX11_move 76 = .ok (.ireturn, 1) := by decide +kernel
theorem dX11_move_77 : decode cX11_move 77 = .ok (.aload 6, 2) := by decide +kernel
theorem dX11_move_79 : decode cX11_move 79 = .ok (.iload_n 2, 1) := by decide +kernel
theorem dX11_move_80 : decode cX11_move 80 = .ok (.iload 5, 2) := by decide +kernel
theorem dX11_move_82 : decode cX11_move 82 = .ok (.invokevirtual 283, 3) := by decide +kernel
theorem dX11_move_85 : decode cX11_move 85 = .ok (.ifCond .eq 15, 3) := by decide +kernel
theorem dX11_move_88 : decode cX11_move 88 = .ok (.aload 7, 2) := by decide +kernel
theorem dX11_move_90 : decode cX11_move 90 = .ok (.iload 4, 2) := by decide +kernel
theorem dX11_move_92 : decode cX11_move 92 = .ok (.iload 5, 2) := by decide +kernel
theorem dX11_move_94 : decode cX11_move 94 = .ok (.invokevirtual 283, 3) := by decide +kernel
theorem dX11_move_97 : decode cX11_move 97 = .ok (.ifCond .ne 9, 3) := by decide +kernel
theorem dX11_move_100 : decode cX11_move 100 = .ok (.aload_n 0, 1) := by decide +kernel
theorem dX11_move_101 : decode cX11_move 101 = .ok (.iconst 1, 1) := by decide +kernel
theorem dX11_move_102 : decode cX11_move 102 = .ok (.invokevirtual 88, 3) := by decide +kernel
theorem dX11_move_105 : decode cX11_move 105 = .ok (.ireturn, 1) := by decide +kernel
theorem dX11_move_106 : decode cX11_move 106 = .ok (.aload 6, 2) := by decide +kernel
theorem dX11_move_108 : decode cX11_move 108 = .ok (.getfield 273, 3) := by decide +kernel
theorem dX11_move_111 : decode cX11_move 111 = .ok (.iload_n 2, 1) := by decide +kernel
theorem dX11_move_112 : decode cX11_move 112 = .ok (.aload 7, 2) := by decide +kernel
theorem dX11_move_114 : decode cX11_move 114 = .ok (.getfield 273, 3) := by decide +kernel
theorem dX11_move_117 : decode cX11_move 117 = .ok (.iload 4, 2) := by decide +kernel
theorem dX11_move_119 : decode cX11_move 119 = .ok (.iload 5, 2) := by decide +kernel
theorem dX11_move_121 : decode cX11_move 121 = .ok (.invokestatic 286, 3) := by decide +kernel
theorem dX11_move_124 : decode cX11_move 124 = .ok (.iload 5, 2) := by decide +kernel
theorem dX11_move_126 : decode cX11_move 126 = .ok (.ireturn, 1) := by decide +kernel
theorem u132_0 {d : Nat} {R : gR} {μ : gM} {l0 l2 l3 l4 l5 l6 l7 : Value} {st : List Value} {x : Int32}  : gc_W (gc_S d) cX11_move 11 0 R 0 [l0, .int x, l2, l3, l4, l5, l6, l7] st μ ↔ gc_W (gc_S d) cX11_move 11 0 R 1 [l0, .int x, l2, l3, l4, l5, l6, l7] (.int x :: st) μ := us_iload_n dX11_move_0 rfl
theorem u132_1 {d : Nat} {R : gR} {μ : gM} {L : List Value}  {a0 : Int32}  : gc_W (gc_S d) cX11_move 11 0 R 1 L [.int a0] μ ↔ gc_S d 121 [.int a0] μ (fun v μ' => gc_W (gc_S d) cX11_move 11 0 R 4 L (v.toList ++ []) μ') := us_stat dX11_move_1 gs_11_232 gne_11_232 gn_11_232 gc_11_232_97 rfl rfl rfl rfl
theorem u132_4 {d : Nat} {R : gR} {μ : gM} {L : List Value} {st : List Value} {x : Int32}  : gc_W (gc_S d) cX11_move 11 0 R 4 L (.int x :: st) μ ↔ if x = 0 then gc_W (gc_S d) cX11_move 11 0 R 14 L st μ else gc_W (gc_S d) cX11_move 11 0 R 7 L st μ := us_ifeq dX11_move_4 rfl
theorem u132_7 {d : Nat} {R : gR} {μ : gM} {l0 l1 l2 l4 l5 l6 l7 : Value} {st : List Value} {x : Int32}  : gc_W (gc_S d) cX11_move 11 0 R 7 [l0, l1, l2, .int x, l4, l5, l6, l7] st μ ↔ gc_W (gc_S d) cX11_move 11 0 R 8 [l0, l1, l2, .int x, l4, l5, l6, l7] (.int x :: st) μ := us_iload_n dX11_move_7 rfl
theorem u132_8 {d : Nat} {R : gR} {μ : gM} {L : List Value}  {a0 : Int32}  : gc_W (gc_S d) cX11_move 11 0 R 8 L [.int a0] μ ↔ gc_S d 121 [.int a0] μ (fun v μ' => gc_W (gc_S d) cX11_move 11 0 R 11 L (v.toList ++ []) μ') := us_stat dX11_move_8 gs_11_232 gne_11_232 gn_11_232 gc_11_232_97 rfl rfl rfl rfl
theorem u132_11 {d : Nat} {R : gR} {μ : gM} {L : List Value} {st : List Value} {x : Int32}  : gc_W (gc_S d) cX11_move 11 0 R 11 L (.int x :: st) μ ↔ if x = 0 then gc_W (gc_S d) cX11_move 11 0 R 14 L st μ else gc_W (gc_S d) cX11_move 11 0 R 20 L st μ := us_ifne dX11_move_11 rfl
theorem u132_14 {d : Nat} {R : gR} {μ : gM} {l1 l2 l3 l4 l5 l6 l7 : Value} {st : List Value} {x : Nat}  : gc_W (gc_S d) cX11_move 11 0 R 14 [.ref x, l1, l2, l3, l4, l5, l6, l7] st μ ↔ gc_W (gc_S d) cX11_move 11 0 R 15 [.ref x, l1, l2, l3, l4, l5, l6, l7] (.ref x :: st) μ := us_aload_n dX11_move_14 rfl
theorem u132_15 {d : Nat} {R : gR} {μ : gM} {L : List Value} {st : List Value}   : gc_W (gc_S d) cX11_move 11 0 R 15 L st μ ↔ gc_W (gc_S d) cX11_move 11 0 R 16 L (.int 1 :: st) μ := us_iconst dX11_move_15 ci_iconst_1
theorem u132_16 {d : Nat} {R : gR} {μ : gM} {L : List Value} {o : Nat} {a0 : Int32} (hk : gc_kd o = 11) : gc_W (gc_S d) cX11_move 11 0 R 16 L [.int a0, .ref o] μ ↔ gc_S d 75 [.ref o, .int a0] μ (fun v μ' => gc_W (gc_S d) cX11_move 11 0 R 19 L (v.toList ++ []) μ') := us_virt dX11_move_16 gn_11_88 gc_11_88_11 hk rfl rfl rfl rfl rfl
theorem u132_19 {d : Nat} {R : gR} {μ : gM} {L : List Value} {v : Int32}  : gc_W (gc_S d) cX11_move 11 0 R 19 L [.int v] μ ↔ R (some (.int v)) μ := us_iret dX11_move_19 rfl
theorem u132_20 {d : Nat} {R : gR} {μ : gM} {l1 l2 l3 l4 l5 l6 l7 : Value} {st : List Value} {x : Nat}  : gc_W (gc_S d) cX11_move 11 0 R 20 [.ref x, l1, l2, l3, l4, l5, l6, l7] st μ ↔ gc_W (gc_S d) cX11_move 11 0 R 21 [.ref x, l1, l2, l3, l4, l5, l6, l7] (.ref x :: st) μ := us_aload_n dX11_move_20 rfl
theorem u132_21 {d : Nat} {R : gR} {μ : gM} {L : List Value} {st : List Value} {o : Nat} (hk : gc_kd o = 11) : gc_W (gc_S d) cX11_move 11 0 R 21 L (.ref o :: st) μ ↔ gc_W (gc_S d) cX11_move 11 0 R 24 L (gc_fv o 4 μ :: st) μ := us_getf dX11_move_21 gf_11_54 hk
theorem u132_24 {d : Nat} {R : gR} {μ : gM} {l0 l2 l3 l4 l5 l6 l7 : Value} {st : List Value} {x : Int32}  : gc_W (gc_S d) cX11_move 11 0 R 24 [l0, .int x, l2, l3, l4, l5, l6, l7] st μ ↔ gc_W (gc_S d) cX11_move 11 0 R 25 [l0, .int x, l2, l3, l4, l5, l6, l7] (.int x :: st) μ := us_iload_n dX11_move_24 rfl
theorem u132_25 {d : Nat} {R : gR} {μ : gM} {L : List Value} {st : List Value} {o : Nat} {i : Int32} {q : Nat} (hk : gc_kd o = q) (hq : (Nat.ble 22 q && Nat.ble q 24) = true) : gc_W (gc_S d) cX11_move 11 0 R 25 L (.int i :: .ref o :: st) μ ↔ (vp_in i (gc_al o) ∧ gc_W (gc_S d) cX11_move 11 0 R 26 L (.ref (gc_ra o i.toNatClampNeg) :: st) μ) := us_aald dX11_move_25 hk hq
theorem u132_26 {d : Nat} {R : gR} {μ : gM} {l0 l1 l2 l3 l4 l5 l6 l7 : Value} {st : List Value} {x : Nat} (hs : gc_sk l6 = true) : gc_W (gc_S d) cX11_move 11 0 R 26 [l0, l1, l2, l3, l4, l5, l6, l7] (.ref x :: st) μ ↔ gc_W (gc_S d) cX11_move 11 0 R 28 [l0, l1, l2, l3, l4, l5, .ref x, l7] st μ := us_astore dX11_move_26 rfl hs
theorem u132_28 {d : Nat} {R : gR} {μ : gM} {l1 l2 l3 l4 l5 l6 l7 : Value} {st : List Value} {x : Nat}  : gc_W (gc_S d) cX11_move 11 0 R 28 [.ref x, l1, l2, l3, l4, l5, l6, l7] st μ ↔ gc_W (gc_S d) cX11_move 11 0 R 29 [.ref x, l1, l2, l3, l4, l5, l6, l7] (.ref x :: st) μ := us_aload_n dX11_move_28 rfl
theorem u132_29 {d : Nat} {R : gR} {μ : gM} {L : List Value} {st : List Value} {o : Nat} (hk : gc_kd o = 11) : gc_W (gc_S d) cX11_move 11 0 R 29 L (.ref o :: st) μ ↔ gc_W (gc_S d) cX11_move 11 0 R 32 L (gc_fv o 4 μ :: st) μ := us_getf dX11_move_29 gf_11_54 hk
theorem u132_32 {d : Nat} {R : gR} {μ : gM} {l0 l1 l2 l4 l5 l6 l7 : Value} {st : List Value} {x : Int32}  : gc_W (gc_S d) cX11_move 11 0 R 32 [l0, l1, l2, .int x, l4, l5, l6, l7] st μ ↔ gc_W (gc_S d) cX11_move 11 0 R 33 [l0, l1, l2, .int x, l4, l5, l6, l7] (.int x :: st) μ := us_iload_n dX11_move_32 rfl
theorem u132_33 {d : Nat} {R : gR} {μ : gM} {L : List Value} {st : List Value} {o : Nat} {i : Int32} {q : Nat} (hk : gc_kd o = q) (hq : (Nat.ble 22 q && Nat.ble q 24) = true) : gc_W (gc_S d) cX11_move 11 0 R 33 L (.int i :: .ref o :: st) μ ↔ (vp_in i (gc_al o) ∧ gc_W (gc_S d) cX11_move 11 0 R 34 L (.ref (gc_ra o i.toNatClampNeg) :: st) μ) := us_aald dX11_move_33 hk hq
theorem u132_34 {d : Nat} {R : gR} {μ : gM} {l0 l1 l2 l3 l4 l5 l6 l7 : Value} {st : List Value} {x : Nat} (hs : gc_sk l7 = true) : gc_W (gc_S d) cX11_move 11 0 R 34 [l0, l1, l2, l3, l4, l5, l6, l7] (.ref x :: st) μ ↔ gc_W (gc_S d) cX11_move 11 0 R 36 [l0, l1, l2, l3, l4, l5, l6, .ref x] st μ := us_astore dX11_move_34 rfl hs
theorem u132_36 {d : Nat} {R : gR} {μ : gM} {l0 l1 l2 l3 l4 l5 l7 : Value} {st : List Value} {x : Nat}  : gc_W (gc_S d) cX11_move 11 0 R 36 [l0, l1, l2, l3, l4, l5, .ref x, l7] st μ ↔ gc_W (gc_S d) cX11_move 11 0 R 38 [l0, l1, l2, l3, l4, l5, .ref x, l7] (.ref x :: st) μ := us_aload dX11_move_36 rfl
theorem u132_38 {d : Nat} {R : gR} {μ : gM} {L : List Value} {st : List Value} {o : Nat} (hk : gc_kd o = 7) : gc_W (gc_S d) cX11_move 11 0 R 38 L (.ref o :: st) μ ↔ gc_W (gc_S d) cX11_move 11 0 R 41 L (gc_fv o 2 μ :: st) μ := us_getf dX11_move_38 gf_11_235 hk
theorem u132_41 {d : Nat} {R : gR} {μ : gM} {L : List Value} {st : List Value} {x : Int32}  : gc_W (gc_S d) cX11_move 11 0 R 41 L (.int x :: st) μ ↔ if x = 0 then gc_W (gc_S d) cX11_move 11 0 R 52 L st μ else gc_W (gc_S d) cX11_move 11 0 R 44 L st μ := us_ifeq dX11_move_41 rfl
theorem u132_44 {d : Nat} {R : gR} {μ : gM} {l0 l1 l2 l3 l4 l5 l6 : Value} {st : List Value} {x : Nat}  : gc_W (gc_S d) cX11_move 11 0 R 44 [l0, l1, l2, l3, l4, l5, l6, .ref x] st μ ↔ gc_W (gc_S d) cX11_move 11 0 R 46 [l0, l1, l2, l3, l4, l5, l6, .ref x] (.ref x :: st) μ := us_aload dX11_move_44 rfl
theorem u132_46 {d : Nat} {R : gR} {μ : gM} {L : List Value} {st : List Value} {o : Nat} (hk : gc_kd o = 7) : gc_W (gc_S d) cX11_move 11 0 R 46 L (.ref o :: st) μ ↔ gc_W (gc_S d) cX11_move 11 0 R 49 L (gc_fv o 2 μ :: st) μ := us_getf dX11_move_46 gf_11_235 hk
theorem u132_49 {d : Nat} {R : gR} {μ : gM} {L : List Value} {st : List Value} {x : Int32}  : gc_W (gc_S d) cX11_move 11 0 R 49 L (.int x :: st) μ ↔ if x = 0 then gc_W (gc_S d) cX11_move 11 0 R 52 L st μ else gc_W (gc_S d) cX11_move 11 0 R 58 L st μ := us_ifne dX11_move_49 rfl
theorem u132_52 {d : Nat} {R : gR} {μ : gM} {l1 l2 l3 l4 l5 l6 l7 : Value} {st : List Value} {x : Nat}  : gc_W (gc_S d) cX11_move 11 0 R 52 [.ref x, l1, l2, l3, l4, l5, l6, l7] st μ ↔ gc_W (gc_S d) cX11_move 11 0 R 53 [.ref x, l1, l2, l3, l4, l5, l6, l7] (.ref x :: st) μ := us_aload_n dX11_move_52 rfl
theorem u132_53 {d : Nat} {R : gR} {μ : gM} {L : List Value} {st : List Value}   : gc_W (gc_S d) cX11_move 11 0 R 53 L st μ ↔ gc_W (gc_S d) cX11_move 11 0 R 54 L (.int 2 :: st) μ := us_iconst dX11_move_53 ci_iconst_2
theorem u132_54 {d : Nat} {R : gR} {μ : gM} {L : List Value} {o : Nat} {a0 : Int32} (hk : gc_kd o = 11) : gc_W (gc_S d) cX11_move 11 0 R 54 L [.int a0, .ref o] μ ↔ gc_S d 75 [.ref o, .int a0] μ (fun v μ' => gc_W (gc_S d) cX11_move 11 0 R 57 L (v.toList ++ []) μ') := us_virt dX11_move_54 gn_11_88 gc_11_88_11 hk rfl rfl rfl rfl rfl
theorem u132_57 {d : Nat} {R : gR} {μ : gM} {L : List Value} {v : Int32}  : gc_W (gc_S d) cX11_move 11 0 R 57 L [.int v] μ ↔ R (some (.int v)) μ := us_iret dX11_move_57 rfl
theorem u132_58 {d : Nat} {R : gR} {μ : gM} {l0 l1 l2 l3 l4 l5 l7 : Value} {st : List Value} {x : Nat}  : gc_W (gc_S d) cX11_move 11 0 R 58 [l0, l1, l2, l3, l4, l5, .ref x, l7] st μ ↔ gc_W (gc_S d) cX11_move 11 0 R 60 [l0, l1, l2, l3, l4, l5, .ref x, l7] (.ref x :: st) μ := us_aload dX11_move_58 rfl
theorem u132_60 {d : Nat} {R : gR} {μ : gM} {L : List Value} {st : List Value} {o : Nat} (hk : gc_kd o = 7) : gc_W (gc_S d) cX11_move 11 0 R 60 L (.ref o :: st) μ ↔ gc_W (gc_S d) cX11_move 11 0 R 63 L (gc_fv o 2 μ :: st) μ := us_getf dX11_move_60 gf_11_235 hk
theorem u132_63 {d : Nat} {R : gR} {μ : gM} {l0 l1 l2 l3 l4 l5 l6 : Value} {st : List Value} {x : Nat}  : gc_W (gc_S d) cX11_move 11 0 R 63 [l0, l1, l2, l3, l4, l5, l6, .ref x] st μ ↔ gc_W (gc_S d) cX11_move 11 0 R 65 [l0, l1, l2, l3, l4, l5, l6, .ref x] (.ref x :: st) μ := us_aload dX11_move_63 rfl
theorem u132_65 {d : Nat} {R : gR} {μ : gM} {L : List Value} {st : List Value} {o : Nat} (hk : gc_kd o = 7) : gc_W (gc_S d) cX11_move 11 0 R 65 L (.ref o :: st) μ ↔ gc_W (gc_S d) cX11_move 11 0 R 68 L (gc_fv o 2 μ :: st) μ := us_getf dX11_move_65 gf_11_235 hk
theorem u132_68 {d : Nat} {R : gR} {μ : gM} {L : List Value} {st : List Value} {x y : Int32}  : gc_W (gc_S d) cX11_move 11 0 R 68 L (.int y :: .int x :: st) μ ↔ if x = y then gc_W (gc_S d) cX11_move 11 0 R 77 L st μ else gc_W (gc_S d) cX11_move 11 0 R 71 L st μ := us_iceq dX11_move_68 rfl
theorem u132_71 {d : Nat} {R : gR} {μ : gM} {l1 l2 l3 l4 l5 l6 l7 : Value} {st : List Value} {x : Nat}  : gc_W (gc_S d) cX11_move 11 0 R 71 [.ref x, l1, l2, l3, l4, l5, l6, l7] st μ ↔ gc_W (gc_S d) cX11_move 11 0 R 72 [.ref x, l1, l2, l3, l4, l5, l6, l7] (.ref x :: st) μ := us_aload_n dX11_move_71 rfl
theorem u132_72 {d : Nat} {R : gR} {μ : gM} {L : List Value} {st : List Value}   : gc_W (gc_S d) cX11_move 11 0 R 72 L st μ ↔ gc_W (gc_S d) cX11_move 11 0 R 73 L (.int 5 :: st) μ := us_iconst dX11_move_72 ci_iconst_5
theorem u132_73 {d : Nat} {R : gR} {μ : gM} {L : List Value} {o : Nat} {a0 : Int32} (hk : gc_kd o = 11) : gc_W (gc_S d) cX11_move 11 0 R 73 L [.int a0, .ref o] μ ↔ gc_S d 75 [.ref o, .int a0] μ (fun v μ' => gc_W (gc_S d) cX11_move 11 0 R 76 L (v.toList ++ []) μ') := us_virt dX11_move_73 gn_11_88 gc_11_88_11 hk rfl rfl rfl rfl rfl
theorem u132_76 {d : Nat} {R : gR} {μ : gM} {L : List Value} {v : Int32}  : gc_W (gc_S d) cX11_move 11 0 R 76 L [.int v] μ ↔ R (some (.int v)) μ := us_iret dX11_move_76 rfl
theorem u132_77 {d : Nat} {R : gR} {μ : gM} {l0 l1 l2 l3 l4 l5 l7 : Value} {st : List Value} {x : Nat}  : gc_W (gc_S d) cX11_move 11 0 R 77 [l0, l1, l2, l3, l4, l5, .ref x, l7] st μ ↔ gc_W (gc_S d) cX11_move 11 0 R 79 [l0, l1, l2, l3, l4, l5, .ref x, l7] (.ref x :: st) μ := us_aload dX11_move_77 rfl
theorem u132_79 {d : Nat} {R : gR} {μ : gM} {l0 l1 l3 l4 l5 l6 l7 : Value} {st : List Value} {x : Int32}  : gc_W (gc_S d) cX11_move 11 0 R 79 [l0, l1, .int x, l3, l4, l5, l6, l7] st μ ↔ gc_W (gc_S d) cX11_move 11 0 R 80 [l0, l1, .int x, l3, l4, l5, l6, l7] (.int x :: st) μ := us_iload_n dX11_move_79 rfl
theorem u132_80 {d : Nat} {R : gR} {μ : gM} {l0 l1 l2 l3 l4 l6 l7 : Value} {st : List Value} {x : Int32}  : gc_W (gc_S d) cX11_move 11 0 R 80 [l0, l1, l2, l3, l4, .int x, l6, l7] st μ ↔ gc_W (gc_S d) cX11_move 11 0 R 82 [l0, l1, l2, l3, l4, .int x, l6, l7] (.int x :: st) μ := us_iload dX11_move_80 rfl
theorem u132_82 {d : Nat} {R : gR} {μ : gM} {L : List Value} {o : Nat} {a0 a1 : Int32} (hk : gc_kd o = 7) : gc_W (gc_S d) cX11_move 11 0 R 82 L [.int a1, .int a0, .ref o] μ ↔ gc_S d 71 [.ref o, .int a0, .int a1] μ (fun v μ' => gc_W (gc_S d) cX11_move 11 0 R 85 L (v.toList ++ []) μ') := us_virt dX11_move_82 gn_11_283 gc_11_283_7 hk rfl rfl rfl rfl rfl
theorem u132_85 {d : Nat} {R : gR} {μ : gM} {L : List Value} {st : List Value} {x : Int32}  : gc_W (gc_S d) cX11_move 11 0 R 85 L (.int x :: st) μ ↔ if x = 0 then gc_W (gc_S d) cX11_move 11 0 R 100 L st μ else gc_W (gc_S d) cX11_move 11 0 R 88 L st μ := us_ifeq dX11_move_85 rfl
theorem u132_88 {d : Nat} {R : gR} {μ : gM} {l0 l1 l2 l3 l4 l5 l6 : Value} {st : List Value} {x : Nat}  : gc_W (gc_S d) cX11_move 11 0 R 88 [l0, l1, l2, l3, l4, l5, l6, .ref x] st μ ↔ gc_W (gc_S d) cX11_move 11 0 R 90 [l0, l1, l2, l3, l4, l5, l6, .ref x] (.ref x :: st) μ := us_aload dX11_move_88 rfl
theorem u132_90 {d : Nat} {R : gR} {μ : gM} {l0 l1 l2 l3 l5 l6 l7 : Value} {st : List Value} {x : Int32}  : gc_W (gc_S d) cX11_move 11 0 R 90 [l0, l1, l2, l3, .int x, l5, l6, l7] st μ ↔ gc_W (gc_S d) cX11_move 11 0 R 92 [l0, l1, l2, l3, .int x, l5, l6, l7] (.int x :: st) μ := us_iload dX11_move_90 rfl
theorem u132_92 {d : Nat} {R : gR} {μ : gM} {l0 l1 l2 l3 l4 l6 l7 : Value} {st : List Value} {x : Int32}  : gc_W (gc_S d) cX11_move 11 0 R 92 [l0, l1, l2, l3, l4, .int x, l6, l7] st μ ↔ gc_W (gc_S d) cX11_move 11 0 R 94 [l0, l1, l2, l3, l4, .int x, l6, l7] (.int x :: st) μ := us_iload dX11_move_92 rfl
theorem u132_94 {d : Nat} {R : gR} {μ : gM} {L : List Value} {o : Nat} {a0 a1 : Int32} (hk : gc_kd o = 7) : gc_W (gc_S d) cX11_move 11 0 R 94 L [.int a1, .int a0, .ref o] μ ↔ gc_S d 71 [.ref o, .int a0, .int a1] μ (fun v μ' => gc_W (gc_S d) cX11_move 11 0 R 97 L (v.toList ++ []) μ') := us_virt dX11_move_94 gn_11_283 gc_11_283_7 hk rfl rfl rfl rfl rfl
theorem u132_97 {d : Nat} {R : gR} {μ : gM} {L : List Value} {st : List Value} {x : Int32}  : gc_W (gc_S d) cX11_move 11 0 R 97 L (.int x :: st) μ ↔ if x = 0 then gc_W (gc_S d) cX11_move 11 0 R 100 L st μ else gc_W (gc_S d) cX11_move 11 0 R 106 L st μ := us_ifne dX11_move_97 rfl
theorem u132_100 {d : Nat} {R : gR} {μ : gM} {l1 l2 l3 l4 l5 l6 l7 : Value} {st : List Value} {x : Nat}  : gc_W (gc_S d) cX11_move 11 0 R 100 [.ref x, l1, l2, l3, l4, l5, l6, l7] st μ ↔ gc_W (gc_S d) cX11_move 11 0 R 101 [.ref x, l1, l2, l3, l4, l5, l6, l7] (.ref x :: st) μ := us_aload_n dX11_move_100 rfl
theorem u132_101 {d : Nat} {R : gR} {μ : gM} {L : List Value} {st : List Value}   : gc_W (gc_S d) cX11_move 11 0 R 101 L st μ ↔ gc_W (gc_S d) cX11_move 11 0 R 102 L (.int 1 :: st) μ := us_iconst dX11_move_101 ci_iconst_1
theorem u132_102 {d : Nat} {R : gR} {μ : gM} {L : List Value} {o : Nat} {a0 : Int32} (hk : gc_kd o = 11) : gc_W (gc_S d) cX11_move 11 0 R 102 L [.int a0, .ref o] μ ↔ gc_S d 75 [.ref o, .int a0] μ (fun v μ' => gc_W (gc_S d) cX11_move 11 0 R 105 L (v.toList ++ []) μ') := us_virt dX11_move_102 gn_11_88 gc_11_88_11 hk rfl rfl rfl rfl rfl
theorem u132_105 {d : Nat} {R : gR} {μ : gM} {L : List Value} {v : Int32}  : gc_W (gc_S d) cX11_move 11 0 R 105 L [.int v] μ ↔ R (some (.int v)) μ := us_iret dX11_move_105 rfl
theorem u132_106 {d : Nat} {R : gR} {μ : gM} {l0 l1 l2 l3 l4 l5 l7 : Value} {st : List Value} {x : Nat}  : gc_W (gc_S d) cX11_move 11 0 R 106 [l0, l1, l2, l3, l4, l5, .ref x, l7] st μ ↔ gc_W (gc_S d) cX11_move 11 0 R 108 [l0, l1, l2, l3, l4, l5, .ref x, l7] (.ref x :: st) μ := us_aload dX11_move_106 rfl
theorem u132_108 {d : Nat} {R : gR} {μ : gM} {L : List Value} {st : List Value} {o : Nat} (hk : gc_kd o = 7) : gc_W (gc_S d) cX11_move 11 0 R 108 L (.ref o :: st) μ ↔ gc_W (gc_S d) cX11_move 11 0 R 111 L (gc_fv o 0 μ :: st) μ := us_getf dX11_move_108 gf_11_273 hk
theorem u132_111 {d : Nat} {R : gR} {μ : gM} {l0 l1 l3 l4 l5 l6 l7 : Value} {st : List Value} {x : Int32}  : gc_W (gc_S d) cX11_move 11 0 R 111 [l0, l1, .int x, l3, l4, l5, l6, l7] st μ ↔ gc_W (gc_S d) cX11_move 11 0 R 112 [l0, l1, .int x, l3, l4, l5, l6, l7] (.int x :: st) μ := us_iload_n dX11_move_111 rfl
theorem u132_112 {d : Nat} {R : gR} {μ : gM} {l0 l1 l2 l3 l4 l5 l6 : Value} {st : List Value} {x : Nat}  : gc_W (gc_S d) cX11_move 11 0 R 112 [l0, l1, l2, l3, l4, l5, l6, .ref x] st μ ↔ gc_W (gc_S d) cX11_move 11 0 R 114 [l0, l1, l2, l3, l4, l5, l6, .ref x] (.ref x :: st) μ := us_aload dX11_move_112 rfl
theorem u132_114 {d : Nat} {R : gR} {μ : gM} {L : List Value} {st : List Value} {o : Nat} (hk : gc_kd o = 7) : gc_W (gc_S d) cX11_move 11 0 R 114 L (.ref o :: st) μ ↔ gc_W (gc_S d) cX11_move 11 0 R 117 L (gc_fv o 0 μ :: st) μ := us_getf dX11_move_114 gf_11_273 hk
theorem u132_117 {d : Nat} {R : gR} {μ : gM} {l0 l1 l2 l3 l5 l6 l7 : Value} {st : List Value} {x : Int32}  : gc_W (gc_S d) cX11_move 11 0 R 117 [l0, l1, l2, l3, .int x, l5, l6, l7] st μ ↔ gc_W (gc_S d) cX11_move 11 0 R 119 [l0, l1, l2, l3, .int x, l5, l6, l7] (.int x :: st) μ := us_iload dX11_move_117 rfl
theorem u132_119 {d : Nat} {R : gR} {μ : gM} {l0 l1 l2 l3 l4 l6 l7 : Value} {st : List Value} {x : Int32}  : gc_W (gc_S d) cX11_move 11 0 R 119 [l0, l1, l2, l3, l4, .int x, l6, l7] st μ ↔ gc_W (gc_S d) cX11_move 11 0 R 121 [l0, l1, l2, l3, l4, .int x, l6, l7] (.int x :: st) μ := us_iload dX11_move_119 rfl
theorem u132_121 {d : Nat} {R : gR} {μ : gM} {L : List Value} {o1 o2 : Nat} {sp dp z : Int32} (hk1 : gc_kd o1 = 20) (hk2 : gc_kd o2 = 20) : gc_W (gc_S d) cX11_move 11 0 R 121 L [.int z, .int dp, .ref o2, .int sp, .ref o1] μ ↔ ((¬ sp < 0 ∧ ¬ dp < 0 ∧ ¬ z < 0 ∧ sp.toNatClampNeg + z.toNatClampNeg ≤ gc_al o1 ∧ dp.toNatClampNeg + z.toNatClampNeg ≤ gc_al o2) ∧ gc_W (gc_S d) cX11_move 11 0 R 124 L [] (gc_cp μ o1 o2 sp.toNatClampNeg dp.toNatClampNeg z.toNatClampNeg)) := us_copy dX11_move_121 gs_11_286 rfl hk1 hk2
theorem u132_124 {d : Nat} {R : gR} {μ : gM} {l0 l1 l2 l3 l4 l6 l7 : Value} {st : List Value} {x : Int32}  : gc_W (gc_S d) cX11_move 11 0 R 124 [l0, l1, l2, l3, l4, .int x, l6, l7] st μ ↔ gc_W (gc_S d) cX11_move 11 0 R 126 [l0, l1, l2, l3, l4, .int x, l6, l7] (.int x :: st) μ := us_iload dX11_move_124 rfl
theorem u132_126 {d : Nat} {R : gR} {μ : gM} {L : List Value} {v : Int32}  : gc_W (gc_S d) cX11_move 11 0 R 126 L [.int v] μ ↔ R (some (.int v)) μ := us_iret dX11_move_126 rfl
theorem s132 {d : Nat} {R : gR} {μ : gM} {o : Nat} {a0 a1 a2 a3 a4 : Int32} : gc_S (d + 1) 132 [.ref o, .int a0, .int a1, .int a2, .int a3, .int a4] μ R ↔ gc_W (gc_S d) cX11_move 11 0 R 0 [.ref o, .int a0, .int a1, .int a2, .int a3, .int a4, .retAddr 0, .retAddr 0] [] μ := us_call (gm_132) rfl rfl
theorem dX11_wets_0 : decode cX11_wets 0 = .ok (.iload_n 1, 1) := by decide +kernel
theorem dX11_wets_1 : decode cX11_wets 1 = .ok (.invokestatic 232, 3) := by decide +kernel
theorem dX11_wets_4 : decode cX11_wets 4 = .ok (.ifCond .ne 9, 3) := by decide +kernel
theorem dX11_wets_7 : decode cX11_wets 7 = .ok (.aload_n 0, 1) := by decide +kernel
theorem dX11_wets_8 : decode cX11_wets 8 = .ok (.iconst 1, 1) := by decide +kernel
theorem dX11_wets_9 : decode cX11_wets 9 = .ok (.invokevirtual 88, 3) := by decide +kernel
theorem dX11_wets_12 : decode cX11_wets 12 = .ok (.ireturn, 1) := by decide +kernel
theorem dX11_wets_13 : decode cX11_wets 13 = .ok (.aload_n 0, 1) := by decide +kernel
theorem dX11_wets_14 : decode cX11_wets 14 = .ok (.getfield 54, 3) := by decide +kernel
theorem dX11_wets_17 : decode cX11_wets 17 = .ok (.iload_n 1, 1) := by decide +kernel
theorem dX11_wets_18 : decode cX11_wets 18 = .ok (.aaload, 1) := by decide +kernel
theorem dX11_wets_19 : decode cX11_wets 19 = .ok (.astore_n 2, 1) := by decide +kernel
theorem dX11_wets_20 : decode cX11_wets 20 = .ok (.aload_n 2, 1) := by decide +kernel
theorem dX11_wets_21 : decode cX11_wets 21 = .ok (.getfield 235, 3) := by decide +kernel
theorem dX11_wets_24 : decode cX11_wets 24 = .ok (.ifCond .ne 9, 3) := by decide +kernel
theorem dX11_wets_27 : decode cX11_wets 27 = .ok (.aload_n 0, 1) := by decide +kernel
theorem dX11_wets_28 : decode cX11_wets 28 = .ok (.iconst 2, 1) := by decide +kernel
theorem dX11_wets_29 : decode cX11_wets 29 = .ok (.invokevirtual 88, 3) := by decide +kernel
theorem dX11_wets_32 : decode cX11_wets 32 = .ok (.ireturn, 1) := by decide +kernel
theorem dX11_wets_33 : decode cX11_wets 33 = .ok (.aload_n 2, 1) := by decide +kernel
theorem dX11_wets_34 : decode cX11_wets 34 = .ok (.getfield 161, 3) := by decide +kernel
theorem dX11_wets_37 : decode cX11_wets 37 = .ok (.bipush 16, 2) := by decide +kernel
theorem dX11_wets_39 : decode cX11_wets 39 = .ok (.invokestatic 292, 3) := by decide +kernel
theorem dX11_wets_42 : decode cX11_wets 42 = .ok (.istore_n 3, 1) := by decide +kernel
theorem dX11_wets_43 : decode cX11_wets 43 = .ok (.iconst 0, 1) := by decide +kernel
theorem dX11_wets_44 : decode cX11_wets 44 = .ok (.istore 4, 2) := by decide +kernel
theorem dX11_wets_46 : decode cX11_wets 46 = .ok (.iload 4, 2) := by decide +kernel
theorem dX11_wets_48 : decode cX11_wets 48 = .ok (.iload_n 3, 1) := by decide +kernel
theorem dX11_wets_49 : decode cX11_wets 49 = .ok (.if_icmp .ge 44, 3) := by decide +kernel
theorem dX11_wets_52 : decode cX11_wets 52 = .ok (.bipush 99, 2) := by decide +kernel
theorem dX11_wets_54 : decode cX11_wets 54 = .ok (.aload_n 2, 1) := by decide +kernel
theorem dX11_wets_55 : decode cX11_wets 55 = .ok (.getfield 273, 3) := by decide +kernel
theorem dX11_wets_58 : decode cX11_wets 58 = .ok (.iload 4, 2) := by decide +kernel
theorem dX11_wets_60 : decode cX11_wets 60 = .ok (.iaload, 1) := by decide +kernel
theorem dX11_wets_61 : decode cX11_wets 61 = .ok (.invokestatic 84, 3) := by decide +kernel
theorem dX11_wets_64 : decode cX11_wets 64 = .ok (.ifCond .ne 6, 3) := by decide +kernel
theorem dX11_wets_67 : decode cX11_wets 67 = .ok (.iload 4, 2) := by decide +kernel
theorem dX11_wets_69 : decode cX11_wets 69 = .ok (.ireturn, 1) := by decide +kernel
theorem dX11_wets_70 : decode cX11_wets 70 = .ok (.aload_n 0, 1) := by decide +kernel
theorem dX11_wets_71 : decode cX11_wets 71 = .ok (.getfield 38, 3) := by decide +kernel
theorem dX11_wets_74 : decode cX11_wets 74 = .ok (.getfield 92, 3) := by decide +kernel
theorem dX11_wets_77 : decode cX11_wets 77 = .ok (.iload 4, 2) := by decide +kernel
theorem dX11_wets_79 : decode cX11_wets 79 = .ok (.aload_n 2, 1) := by decide +kernel
theorem dX11_wets_80 : decode cX11_wets 80 = .ok (.getfield 273, 3) := by decide +kernel
theorem dX11_wets_83 : decode cX11_wets 83 = .ok (.iload 4, 2) := by decide +kernel
theorem dX11_wets_85 : decode cX11_wets 85 = .ok (.iaload, 1) := by decide +kernel
theorem dX11_wets_86 : decode cX11_wets 86 = .ok (.iastore, 1) := by decide +kernel
theorem dX11_wets_87 : decode cX11_wets 87 = .ok (.iinc 4 1, 3) := by decide +kernel
theorem dX11_wets_90 : decode cX11_wets 90 = .ok (.goto (-44), 3) := by decide +kernel
theorem dX11_wets_93 : decode cX11_wets 93 = .ok (.iload_n 3, 1) := by decide +kernel
theorem dX11_wets_94 : decode cX11_wets 94 = .ok (.ireturn, 1) := by decide +kernel
theorem u133_0 {d : Nat} {R : gR} {μ : gM} {l0 l2 l3 l4 : Value} {st : List Value} {x : Int32}  : gc_W (gc_S d) cX11_wets 11 0 R 0 [l0, .int x, l2, l3, l4] st μ ↔ gc_W (gc_S d) cX11_wets 11 0 R 1 [l0, .int x, l2, l3, l4] (.int x :: st) μ := us_iload_n dX11_wets_0 rfl
theorem u133_1 {d : Nat} {R : gR} {μ : gM} {L : List Value}  {a0 : Int32}  : gc_W (gc_S d) cX11_wets 11 0 R 1 L [.int a0] μ ↔ gc_S d 121 [.int a0] μ (fun v μ' => gc_W (gc_S d) cX11_wets 11 0 R 4 L (v.toList ++ []) μ') := us_stat dX11_wets_1 gs_11_232 gne_11_232 gn_11_232 gc_11_232_97 rfl rfl rfl rfl
theorem u133_4 {d : Nat} {R : gR} {μ : gM} {L : List Value} {st : List Value} {x : Int32}  : gc_W (gc_S d) cX11_wets 11 0 R 4 L (.int x :: st) μ ↔ if x = 0 then gc_W (gc_S d) cX11_wets 11 0 R 7 L st μ else gc_W (gc_S d) cX11_wets 11 0 R 13 L st μ := us_ifne dX11_wets_4 rfl
theorem u133_7 {d : Nat} {R : gR} {μ : gM} {l1 l2 l3 l4 : Value} {st : List Value} {x : Nat}  : gc_W (gc_S d) cX11_wets 11 0 R 7 [.ref x, l1, l2, l3, l4] st μ ↔ gc_W (gc_S d) cX11_wets 11 0 R 8 [.ref x, l1, l2, l3, l4] (.ref x :: st) μ := us_aload_n dX11_wets_7 rfl
theorem u133_8 {d : Nat} {R : gR} {μ : gM} {L : List Value} {st : List Value}   : gc_W (gc_S d) cX11_wets 11 0 R 8 L st μ ↔ gc_W (gc_S d) cX11_wets 11 0 R 9 L (.int 1 :: st) μ := us_iconst dX11_wets_8 ci_iconst_1
theorem u133_9 {d : Nat} {R : gR} {μ : gM} {L : List Value} {o : Nat} {a0 : Int32} (hk : gc_kd o = 11) : gc_W (gc_S d) cX11_wets 11 0 R 9 L [.int a0, .ref o] μ ↔ gc_S d 75 [.ref o, .int a0] μ (fun v μ' => gc_W (gc_S d) cX11_wets 11 0 R 12 L (v.toList ++ []) μ') := us_virt dX11_wets_9 gn_11_88 gc_11_88_11 hk rfl rfl rfl rfl rfl
theorem u133_12 {d : Nat} {R : gR} {μ : gM} {L : List Value} {v : Int32}  : gc_W (gc_S d) cX11_wets 11 0 R 12 L [.int v] μ ↔ R (some (.int v)) μ := us_iret dX11_wets_12 rfl
theorem u133_13 {d : Nat} {R : gR} {μ : gM} {l1 l2 l3 l4 : Value} {st : List Value} {x : Nat}  : gc_W (gc_S d) cX11_wets 11 0 R 13 [.ref x, l1, l2, l3, l4] st μ ↔ gc_W (gc_S d) cX11_wets 11 0 R 14 [.ref x, l1, l2, l3, l4] (.ref x :: st) μ := us_aload_n dX11_wets_13 rfl
theorem u133_14 {d : Nat} {R : gR} {μ : gM} {L : List Value} {st : List Value} {o : Nat} (hk : gc_kd o = 11) : gc_W (gc_S d) cX11_wets 11 0 R 14 L (.ref o :: st) μ ↔ gc_W (gc_S d) cX11_wets 11 0 R 17 L (gc_fv o 4 μ :: st) μ := us_getf dX11_wets_14 gf_11_54 hk
theorem u133_17 {d : Nat} {R : gR} {μ : gM} {l0 l2 l3 l4 : Value} {st : List Value} {x : Int32}  : gc_W (gc_S d) cX11_wets 11 0 R 17 [l0, .int x, l2, l3, l4] st μ ↔ gc_W (gc_S d) cX11_wets 11 0 R 18 [l0, .int x, l2, l3, l4] (.int x :: st) μ := us_iload_n dX11_wets_17 rfl
theorem u133_18 {d : Nat} {R : gR} {μ : gM} {L : List Value} {st : List Value} {o : Nat} {i : Int32} {q : Nat} (hk : gc_kd o = q) (hq : (Nat.ble 22 q && Nat.ble q 24) = true) : gc_W (gc_S d) cX11_wets 11 0 R 18 L (.int i :: .ref o :: st) μ ↔ (vp_in i (gc_al o) ∧ gc_W (gc_S d) cX11_wets 11 0 R 19 L (.ref (gc_ra o i.toNatClampNeg) :: st) μ) := us_aald dX11_wets_18 hk hq
theorem u133_19 {d : Nat} {R : gR} {μ : gM} {l0 l1 l2 l3 l4 : Value} {st : List Value} {x : Nat} (hs : gc_sk l2 = true) : gc_W (gc_S d) cX11_wets 11 0 R 19 [l0, l1, l2, l3, l4] (.ref x :: st) μ ↔ gc_W (gc_S d) cX11_wets 11 0 R 20 [l0, l1, .ref x, l3, l4] st μ := us_astore_n dX11_wets_19 rfl hs
theorem u133_20 {d : Nat} {R : gR} {μ : gM} {l0 l1 l3 l4 : Value} {st : List Value} {x : Nat}  : gc_W (gc_S d) cX11_wets 11 0 R 20 [l0, l1, .ref x, l3, l4] st μ ↔ gc_W (gc_S d) cX11_wets 11 0 R 21 [l0, l1, .ref x, l3, l4] (.ref x :: st) μ := us_aload_n dX11_wets_20 rfl
theorem u133_21 {d : Nat} {R : gR} {μ : gM} {L : List Value} {st : List Value} {o : Nat} (hk : gc_kd o = 7) : gc_W (gc_S d) cX11_wets 11 0 R 21 L (.ref o :: st) μ ↔ gc_W (gc_S d) cX11_wets 11 0 R 24 L (gc_fv o 2 μ :: st) μ := us_getf dX11_wets_21 gf_11_235 hk
theorem u133_24 {d : Nat} {R : gR} {μ : gM} {L : List Value} {st : List Value} {x : Int32}  : gc_W (gc_S d) cX11_wets 11 0 R 24 L (.int x :: st) μ ↔ if x = 0 then gc_W (gc_S d) cX11_wets 11 0 R 27 L st μ else gc_W (gc_S d) cX11_wets 11 0 R 33 L st μ := us_ifne dX11_wets_24 rfl
theorem u133_27 {d : Nat} {R : gR} {μ : gM} {l1 l2 l3 l4 : Value} {st : List Value} {x : Nat}  : gc_W (gc_S d) cX11_wets 11 0 R 27 [.ref x, l1, l2, l3, l4] st μ ↔ gc_W (gc_S d) cX11_wets 11 0 R 28 [.ref x, l1, l2, l3, l4] (.ref x :: st) μ := us_aload_n dX11_wets_27 rfl
theorem u133_28 {d : Nat} {R : gR} {μ : gM} {L : List Value} {st : List Value}   : gc_W (gc_S d) cX11_wets 11 0 R 28 L st μ ↔ gc_W (gc_S d) cX11_wets 11 0 R 29 L (.int 2 :: st) μ := us_iconst dX11_wets_28 ci_iconst_2
theorem u133_29 {d : Nat} {R : gR} {μ : gM} {L : List Value} {o : Nat} {a0 : Int32} (hk : gc_kd o = 11) : gc_W (gc_S d) cX11_wets 11 0 R 29 L [.int a0, .ref o] μ ↔ gc_S d 75 [.ref o, .int a0] μ (fun v μ' => gc_W (gc_S d) cX11_wets 11 0 R 32 L (v.toList ++ []) μ') := us_virt dX11_wets_29 gn_11_88 gc_11_88_11 hk rfl rfl rfl rfl rfl
theorem u133_32 {d : Nat} {R : gR} {μ : gM} {L : List Value} {v : Int32}  : gc_W (gc_S d) cX11_wets 11 0 R 32 L [.int v] μ ↔ R (some (.int v)) μ := us_iret dX11_wets_32 rfl
theorem u133_33 {d : Nat} {R : gR} {μ : gM} {l0 l1 l3 l4 : Value} {st : List Value} {x : Nat}  : gc_W (gc_S d) cX11_wets 11 0 R 33 [l0, l1, .ref x, l3, l4] st μ ↔ gc_W (gc_S d) cX11_wets 11 0 R 34 [l0, l1, .ref x, l3, l4] (.ref x :: st) μ := us_aload_n dX11_wets_33 rfl
theorem u133_34 {d : Nat} {R : gR} {μ : gM} {L : List Value} {st : List Value} {o : Nat} (hk : gc_kd o = 7) : gc_W (gc_S d) cX11_wets 11 0 R 34 L (.ref o :: st) μ ↔ gc_W (gc_S d) cX11_wets 11 0 R 37 L (gc_fv o 1 μ :: st) μ := us_getf dX11_wets_34 gf_11_161 hk
theorem u133_37 {d : Nat} {R : gR} {μ : gM} {L : List Value} {st : List Value}   : gc_W (gc_S d) cX11_wets 11 0 R 37 L st μ ↔ gc_W (gc_S d) cX11_wets 11 0 R 39 L (.int 16 :: st) μ := us_bipush dX11_wets_37 ci_bipush_16
theorem u133_39 {d : Nat} {R : gR} {μ : gM} {L : List Value} {x y : Int32}  : gc_W (gc_S d) cX11_wets 11 0 R 39 L [.int y, .int x] μ ↔ gc_W (gc_S d) cX11_wets 11 0 R 42 L [.int (if y < x then y else x)] μ := us_min dX11_wets_39 gs_11_292 rfl
theorem u133_42 {d : Nat} {R : gR} {μ : gM} {l0 l1 l2 l3 l4 : Value} {st : List Value} {x : Int32} (hs : gc_sk l3 = true) : gc_W (gc_S d) cX11_wets 11 0 R 42 [l0, l1, l2, l3, l4] (.int x :: st) μ ↔ gc_W (gc_S d) cX11_wets 11 0 R 43 [l0, l1, l2, .int x, l4] st μ := us_istore_n dX11_wets_42 rfl hs
theorem u133_43 {d : Nat} {R : gR} {μ : gM} {L : List Value} {st : List Value}   : gc_W (gc_S d) cX11_wets 11 0 R 43 L st μ ↔ gc_W (gc_S d) cX11_wets 11 0 R 44 L (.int 0 :: st) μ := us_iconst dX11_wets_43 ci_iconst_0
theorem u133_44 {d : Nat} {R : gR} {μ : gM} {l0 l1 l2 l3 l4 : Value} {st : List Value} {x : Int32} (hs : gc_sk l4 = true) : gc_W (gc_S d) cX11_wets 11 0 R 44 [l0, l1, l2, l3, l4] (.int x :: st) μ ↔ gc_W (gc_S d) cX11_wets 11 0 R 46 [l0, l1, l2, l3, .int x] st μ := us_istore dX11_wets_44 rfl hs
theorem u133_46 {d : Nat} {R : gR} {μ : gM} {l0 l1 l2 l3 : Value} {st : List Value} {x : Int32}  : gc_W (gc_S d) cX11_wets 11 0 R 46 [l0, l1, l2, l3, .int x] st μ ↔ gc_W (gc_S d) cX11_wets 11 0 R 48 [l0, l1, l2, l3, .int x] (.int x :: st) μ := us_iload dX11_wets_46 rfl
theorem u133_48 {d : Nat} {R : gR} {μ : gM} {l0 l1 l2 l4 : Value} {st : List Value} {x : Int32}  : gc_W (gc_S d) cX11_wets 11 0 R 48 [l0, l1, l2, .int x, l4] st μ ↔ gc_W (gc_S d) cX11_wets 11 0 R 49 [l0, l1, l2, .int x, l4] (.int x :: st) μ := us_iload_n dX11_wets_48 rfl
theorem u133_49 {d : Nat} {R : gR} {μ : gM} {L : List Value} {st : List Value} {x y : Int32}  : gc_W (gc_S d) cX11_wets 11 0 R 49 L (.int y :: .int x :: st) μ ↔ if y ≤ x then gc_W (gc_S d) cX11_wets 11 0 R 93 L st μ else gc_W (gc_S d) cX11_wets 11 0 R 52 L st μ := us_icge dX11_wets_49 rfl
theorem u133_52 {d : Nat} {R : gR} {μ : gM} {L : List Value} {st : List Value}   : gc_W (gc_S d) cX11_wets 11 0 R 52 L st μ ↔ gc_W (gc_S d) cX11_wets 11 0 R 54 L (.int 99 :: st) μ := us_bipush dX11_wets_52 ci_bipush_99
theorem u133_54 {d : Nat} {R : gR} {μ : gM} {l0 l1 l3 l4 : Value} {st : List Value} {x : Nat}  : gc_W (gc_S d) cX11_wets 11 0 R 54 [l0, l1, .ref x, l3, l4] st μ ↔ gc_W (gc_S d) cX11_wets 11 0 R 55 [l0, l1, .ref x, l3, l4] (.ref x :: st) μ := us_aload_n dX11_wets_54 rfl
theorem u133_55 {d : Nat} {R : gR} {μ : gM} {L : List Value} {st : List Value} {o : Nat} (hk : gc_kd o = 7) : gc_W (gc_S d) cX11_wets 11 0 R 55 L (.ref o :: st) μ ↔ gc_W (gc_S d) cX11_wets 11 0 R 58 L (gc_fv o 0 μ :: st) μ := us_getf dX11_wets_55 gf_11_273 hk
theorem u133_58 {d : Nat} {R : gR} {μ : gM} {l0 l1 l2 l3 : Value} {st : List Value} {x : Int32}  : gc_W (gc_S d) cX11_wets 11 0 R 58 [l0, l1, l2, l3, .int x] st μ ↔ gc_W (gc_S d) cX11_wets 11 0 R 60 [l0, l1, l2, l3, .int x] (.int x :: st) μ := us_iload dX11_wets_58 rfl
theorem u133_60 {d : Nat} {R : gR} {μ : gM} {L : List Value} {st : List Value} {o : Nat} {i : Int32} (hk : gc_kd o = 20) : gc_W (gc_S d) cX11_wets 11 0 R 60 L (.int i :: .ref o :: st) μ ↔ (vp_in i (gc_al o) ∧ gc_W (gc_S d) cX11_wets 11 0 R 61 L (.int (μ o i.toNatClampNeg) :: st) μ) := us_iald dX11_wets_60 hk
theorem u133_61 {d : Nat} {R : gR} {μ : gM} {L : List Value}  {a0 a1 : Int32}  : gc_W (gc_S d) cX11_wets 11 0 R 61 L [.int a1, .int a0] μ ↔ gc_S d 73 [.int a0, .int a1] μ (fun v μ' => gc_W (gc_S d) cX11_wets 11 0 R 64 L (v.toList ++ []) μ') := us_stat dX11_wets_61 gs_11_84 gne_11_84 gn_11_84 gc_11_84_97 rfl rfl rfl rfl
theorem u133_64 {d : Nat} {R : gR} {μ : gM} {L : List Value} {st : List Value} {x : Int32}  : gc_W (gc_S d) cX11_wets 11 0 R 64 L (.int x :: st) μ ↔ if x = 0 then gc_W (gc_S d) cX11_wets 11 0 R 67 L st μ else gc_W (gc_S d) cX11_wets 11 0 R 70 L st μ := us_ifne dX11_wets_64 rfl
theorem u133_67 {d : Nat} {R : gR} {μ : gM} {l0 l1 l2 l3 : Value} {st : List Value} {x : Int32}  : gc_W (gc_S d) cX11_wets 11 0 R 67 [l0, l1, l2, l3, .int x] st μ ↔ gc_W (gc_S d) cX11_wets 11 0 R 69 [l0, l1, l2, l3, .int x] (.int x :: st) μ := us_iload dX11_wets_67 rfl
theorem u133_69 {d : Nat} {R : gR} {μ : gM} {L : List Value} {v : Int32}  : gc_W (gc_S d) cX11_wets 11 0 R 69 L [.int v] μ ↔ R (some (.int v)) μ := us_iret dX11_wets_69 rfl
theorem u133_70 {d : Nat} {R : gR} {μ : gM} {l1 l2 l3 l4 : Value} {st : List Value} {x : Nat}  : gc_W (gc_S d) cX11_wets 11 0 R 70 [.ref x, l1, l2, l3, l4] st μ ↔ gc_W (gc_S d) cX11_wets 11 0 R 71 [.ref x, l1, l2, l3, l4] (.ref x :: st) μ := us_aload_n dX11_wets_70 rfl
theorem u133_71 {d : Nat} {R : gR} {μ : gM} {L : List Value} {st : List Value} {o : Nat} (hk : gc_kd o = 11) : gc_W (gc_S d) cX11_wets 11 0 R 71 L (.ref o :: st) μ ↔ gc_W (gc_S d) cX11_wets 11 0 R 74 L (gc_fv o 0 μ :: st) μ := us_getf dX11_wets_71 gf_11_38 hk
theorem u133_74 {d : Nat} {R : gR} {μ : gM} {L : List Value} {st : List Value} {o : Nat} (hk : gc_kd o = 0) : gc_W (gc_S d) cX11_wets 11 0 R 74 L (.ref o :: st) μ ↔ gc_W (gc_S d) cX11_wets 11 0 R 77 L (gc_fv o 2 μ :: st) μ := us_getf dX11_wets_74 gf_11_92 hk
theorem u133_77 {d : Nat} {R : gR} {μ : gM} {l0 l1 l2 l3 : Value} {st : List Value} {x : Int32}  : gc_W (gc_S d) cX11_wets 11 0 R 77 [l0, l1, l2, l3, .int x] st μ ↔ gc_W (gc_S d) cX11_wets 11 0 R 79 [l0, l1, l2, l3, .int x] (.int x :: st) μ := us_iload dX11_wets_77 rfl
theorem u133_79 {d : Nat} {R : gR} {μ : gM} {l0 l1 l3 l4 : Value} {st : List Value} {x : Nat}  : gc_W (gc_S d) cX11_wets 11 0 R 79 [l0, l1, .ref x, l3, l4] st μ ↔ gc_W (gc_S d) cX11_wets 11 0 R 80 [l0, l1, .ref x, l3, l4] (.ref x :: st) μ := us_aload_n dX11_wets_79 rfl
theorem u133_80 {d : Nat} {R : gR} {μ : gM} {L : List Value} {st : List Value} {o : Nat} (hk : gc_kd o = 7) : gc_W (gc_S d) cX11_wets 11 0 R 80 L (.ref o :: st) μ ↔ gc_W (gc_S d) cX11_wets 11 0 R 83 L (gc_fv o 0 μ :: st) μ := us_getf dX11_wets_80 gf_11_273 hk
theorem u133_83 {d : Nat} {R : gR} {μ : gM} {l0 l1 l2 l3 : Value} {st : List Value} {x : Int32}  : gc_W (gc_S d) cX11_wets 11 0 R 83 [l0, l1, l2, l3, .int x] st μ ↔ gc_W (gc_S d) cX11_wets 11 0 R 85 [l0, l1, l2, l3, .int x] (.int x :: st) μ := us_iload dX11_wets_83 rfl
theorem u133_85 {d : Nat} {R : gR} {μ : gM} {L : List Value} {st : List Value} {o : Nat} {i : Int32} (hk : gc_kd o = 20) : gc_W (gc_S d) cX11_wets 11 0 R 85 L (.int i :: .ref o :: st) μ ↔ (vp_in i (gc_al o) ∧ gc_W (gc_S d) cX11_wets 11 0 R 86 L (.int (μ o i.toNatClampNeg) :: st) μ) := us_iald dX11_wets_85 hk
theorem u133_86 {d : Nat} {R : gR} {μ : gM} {L : List Value} {st : List Value} {o : Nat} {i x : Int32} (hk : gc_kd o = 20) : gc_W (gc_S d) cX11_wets 11 0 R 86 L (.int x :: .int i :: .ref o :: st) μ ↔ (vp_in i (gc_al o) ∧ gc_W (gc_S d) cX11_wets 11 0 R 87 L st (gc_up μ o i.toNatClampNeg x)) := us_iast dX11_wets_86 hk
theorem u133_87 {d : Nat} {R : gR} {μ : gM} {l0 l1 l2 l3 : Value} {st : List Value} {x : Int32}  : gc_W (gc_S d) cX11_wets 11 0 R 87 [l0, l1, l2, l3, .int x] st μ ↔ gc_W (gc_S d) cX11_wets 11 0 R 90 [l0, l1, l2, l3, .int (x + 1)] st μ := us_iinc dX11_wets_87 rfl ci_iinc_1
theorem u133_90 {d : Nat} {R : gR} {μ : gM} {L : List Value} {st : List Value}  : gc_W (gc_S d) cX11_wets 11 0 R 90 L st μ ↔ gc_W (gc_S d) cX11_wets 11 0 R 46 L st μ := us_goto dX11_wets_90 rfl
theorem u133_93 {d : Nat} {R : gR} {μ : gM} {l0 l1 l2 l4 : Value} {st : List Value} {x : Int32}  : gc_W (gc_S d) cX11_wets 11 0 R 93 [l0, l1, l2, .int x, l4] st μ ↔ gc_W (gc_S d) cX11_wets 11 0 R 94 [l0, l1, l2, .int x, l4] (.int x :: st) μ := us_iload_n dX11_wets_93 rfl
theorem u133_94 {d : Nat} {R : gR} {μ : gM} {L : List Value} {v : Int32}  : gc_W (gc_S d) cX11_wets 11 0 R 94 L [.int v] μ ↔ R (some (.int v)) μ := us_iret dX11_wets_94 rfl
theorem s133 {d : Nat} {R : gR} {μ : gM} {o : Nat} {a0 : Int32} : gc_S (d + 1) 133 [.ref o, .int a0] μ R ↔ gc_W (gc_S d) cX11_wets 11 0 R 0 [.ref o, .int a0, .retAddr 0, .retAddr 0, .retAddr 0] [] μ := us_call (gm_133) rfl rfl
theorem dX11_judge_0 : decode cX11_judge 0 = .ok (.iload_n 1, 1) := by decide +kernel
theorem dX11_judge_1 : decode cX11_judge 1 = .ok (.invokestatic 232, 3) := by decide +kernel
theorem dX11_judge_4 : decode cX11_judge 4 = .ok (.ifCond .ne 9, 3) := by decide +kernel
theorem dX11_judge_7 : decode cX11_judge 7 = .ok (.aload_n 0, 1) := by decide +kernel
theorem dX11_judge_8 : decode cX11_judge 8 = .ok (.iconst 1, 1) := by decide +kernel
theorem dX11_judge_9 : decode cX11_judge 9 = .ok (.invokevirtual 88, 3) := by decide +kernel
theorem dX11_judge_12 : decode cX11_judge 12 = .ok (.ireturn, 1) := by decide +kernel
theorem dX11_judge_13 : decode cX11_judge 13 = .ok (.aload_n 0, 1) := by decide +kernel
theorem dX11_judge_14 : decode cX11_judge 14 = .ok (.getfield 54, 3) := by decide +kernel
theorem dX11_judge_17 : decode cX11_judge 17 = .ok (.iload_n 1, 1) := by decide +kernel
theorem dX11_judge_18 : decode cX11_judge 18 = .ok (.aaload, 1) := by decide +kernel
theorem dX11_judge_19 : decode cX11_judge 19 = .ok (.astore_n 2, 1) := by decide +kernel
theorem dX11_judge_20 : decode cX11_judge 20 = .ok (.aload_n 2, 1) := by decide +kernel
theorem dX11_judge_21 : decode cX11_judge 21 = .ok (.getfield 235, 3) := by decide +kernel
theorem dX11_judge_24 : decode cX11_judge 24 = .ok (.ifCond .ne 9, 3) := by decide +kernel
theorem dX11_judge_27 : decode cX11_judge 27 = .ok (.aload_n 0, 1) := by decide +kernel
theorem dX11_judge_28 : decode cX11_judge 28 = .ok (.iconst 2, 1) := by decide +kernel
theorem dX11_judge_29 : decode cX11_judge 29 = .ok (.invokevirtual 88, 3) := by decide +kernel
theorem dX11_judge_32 : decode cX11_judge 32 = .ok (.ireturn, 1) := by decide +kernel
theorem dX11_judge_33 : decode cX11_judge 33 = .ok (.aload_n 2, 1) := by decide +kernel
theorem dX11_judge_34 : decode cX11_judge 34 = .ok (.getfield 161, 3) := by decide +kernel
theorem dX11_judge_37 : decode cX11_judge 37 = .ok (.aload_n 0, 1) := by decide +kernel
theorem dX11_judge_38 : decode cX11_judge 38 = .ok (.getfield 38, 3) := by decide +kernel
theorem dX11_judge_41 : decode cX11_judge 41 = .ok (.getfield 120, 3) := by decide +kernel
theorem dX11_judge_44 : decode cX11_judge 44 = .ok (.invokestatic 292, 3) := by decide +kernel
theorem dX11_judge_47 : decode cX11_judge 47 = .ok (.istore_n 3, 1) := by decide +kernel
theorem dX11_judge_48 : decode cX11_judge 48 = .ok (.iconst 0, 1) := by decide +kernel
theorem dX11_judge_49 : decode cX11_judge 49 = .ok (.istore 4, 2) := by decide +kernel
theorem dX11_judge_51 : decode cX11_judge 51 = .ok (.iload 4, 2) := by decide +kernel
theorem dX11_judge_53 : decode cX11_judge 53 = .ok (.iload_n 3, 1) := by decide +kernel
theorem dX11_judge_54 : decode cX11_judge 54 = .ok (.if_icmp .ge 32, 3) := by decide +kernel
theorem dX11_judge_57 : decode cX11_judge 57 = .ok (.aload_n 2, 1) := by decide +kernel
theorem dX11_judge_58 : decode cX11_judge 58 = .ok (.getfield 273, 3) := by decide +kernel
theorem dX11_judge_61 : decode cX11_judge 61 = .ok (.iload 4, 2) := by decide +kernel
theorem dX11_judge_63 : decode cX11_judge 63 = .ok (.iaload, 1) := by decide +kernel
theorem dX11_judge_64 : decode cX11_judge 64 = .ok (.aload_n 0, 1) := by decide +kernel
theorem dX11_judge_65 : decode cX11_judge 65 = .ok (.getfield 38, 3) := by decide +kernel
theorem dX11_judge_68 : decode cX11_judge 68 = .ok (.getfield 129, 3) := by decide +kernel
theorem dX11_judge_71 : decode cX11_judge 71 = .ok (.iload 4, 2) := by decide +kernel
theorem dX11_judge_73 : decode cX11_judge 73 = .ok (.iaload, 1) := by decide +kernel
theorem dX11_judge_74 : decode cX11_judge 74 = .ok (.if_icmp .eq 6, 3) := by decide +kernel
theorem dX11_judge_77 : decode cX11_judge 77 = .ok (.iload 4, 2) := by decide +kernel
theorem dX11_judge_79 : decode cX11_judge 79 = .ok (.ireturn, 1) := by decide +kernel
theorem dX11_judge_80 : decode cX11_judge 80 = .ok (.iinc 4 1, 3) := by decide +kernel
theorem dX11_judge_83 : decode cX11_judge 83 = .ok (.goto (-32), 3) := by decide +kernel
theorem dX11_judge_86 : decode cX11_judge 86 = .ok (.aload_n 2, 1) := by decide +kernel
theorem dX11_judge_87 : decode cX11_judge 87 = .ok (.getfield 161, 3) := by decide +kernel
theorem dX11_judge_90 : decode cX11_judge 90 = .ok (.aload_n 0, 1) := by decide +kernel
theorem dX11_judge_91 : decode cX11_judge 91 = .ok (.getfield 38, 3) := by decide +kernel
theorem dX11_judge_94 : decode cX11_judge 94 = .ok (.getfield 120, 3) := by decide +kernel
theorem dX11_judge_97 : decode cX11_judge 97 = .ok (.if_icmp .ne 7, 3) := by decide +kernel
theorem dX11_judge_100 : decode cX11_judge 100 = .ok (.iconst (-1), 1) := by decide +kernel
theorem dX11_judge_101 : decode cX11_judge 101 = .ok (.goto 4, 3) := by decide +kernel
theorem dX11_judge_104 : decode cX11_judge 104 = .ok (.iload_n 3, 1) := by decide +kernel
theorem dX11_judge_105 : decode cX11_judge 105 = .ok (.ireturn, 1) := by decide +kernel
theorem u134_0 {d : Nat} {R : gR} {μ : gM} {l0 l2 l3 l4 : Value} {st : List Value} {x : Int32}  : gc_W (gc_S d) cX11_judge 11 0 R 0 [l0, .int x, l2, l3, l4] st μ ↔ gc_W (gc_S d) cX11_judge 11 0 R 1 [l0, .int x, l2, l3, l4] (.int x :: st) μ := us_iload_n dX11_judge_0 rfl
theorem u134_1 {d : Nat} {R : gR} {μ : gM} {L : List Value}  {a0 : Int32}  : gc_W (gc_S d) cX11_judge 11 0 R 1 L [.int a0] μ ↔ gc_S d 121 [.int a0] μ (fun v μ' => gc_W (gc_S d) cX11_judge 11 0 R 4 L (v.toList ++ []) μ') := us_stat dX11_judge_1 gs_11_232 gne_11_232 gn_11_232 gc_11_232_97 rfl rfl rfl rfl
theorem u134_4 {d : Nat} {R : gR} {μ : gM} {L : List Value} {st : List Value} {x : Int32}  : gc_W (gc_S d) cX11_judge 11 0 R 4 L (.int x :: st) μ ↔ if x = 0 then gc_W (gc_S d) cX11_judge 11 0 R 7 L st μ else gc_W (gc_S d) cX11_judge 11 0 R 13 L st μ := us_ifne dX11_judge_4 rfl
theorem u134_7 {d : Nat} {R : gR} {μ : gM} {l1 l2 l3 l4 : Value} {st : List Value} {x : Nat}  : gc_W (gc_S d) cX11_judge 11 0 R 7 [.ref x, l1, l2, l3, l4] st μ ↔ gc_W (gc_S d) cX11_judge 11 0 R 8 [.ref x, l1, l2, l3, l4] (.ref x :: st) μ := us_aload_n dX11_judge_7 rfl
theorem u134_8 {d : Nat} {R : gR} {μ : gM} {L : List Value} {st : List Value}   : gc_W (gc_S d) cX11_judge 11 0 R 8 L st μ ↔ gc_W (gc_S d) cX11_judge 11 0 R 9 L (.int 1 :: st) μ := us_iconst dX11_judge_8 ci_iconst_1
theorem u134_9 {d : Nat} {R : gR} {μ : gM} {L : List Value} {o : Nat} {a0 : Int32} (hk : gc_kd o = 11) : gc_W (gc_S d) cX11_judge 11 0 R 9 L [.int a0, .ref o] μ ↔ gc_S d 75 [.ref o, .int a0] μ (fun v μ' => gc_W (gc_S d) cX11_judge 11 0 R 12 L (v.toList ++ []) μ') := us_virt dX11_judge_9 gn_11_88 gc_11_88_11 hk rfl rfl rfl rfl rfl
theorem u134_12 {d : Nat} {R : gR} {μ : gM} {L : List Value} {v : Int32}  : gc_W (gc_S d) cX11_judge 11 0 R 12 L [.int v] μ ↔ R (some (.int v)) μ := us_iret dX11_judge_12 rfl
theorem u134_13 {d : Nat} {R : gR} {μ : gM} {l1 l2 l3 l4 : Value} {st : List Value} {x : Nat}  : gc_W (gc_S d) cX11_judge 11 0 R 13 [.ref x, l1, l2, l3, l4] st μ ↔ gc_W (gc_S d) cX11_judge 11 0 R 14 [.ref x, l1, l2, l3, l4] (.ref x :: st) μ := us_aload_n dX11_judge_13 rfl
theorem u134_14 {d : Nat} {R : gR} {μ : gM} {L : List Value} {st : List Value} {o : Nat} (hk : gc_kd o = 11) : gc_W (gc_S d) cX11_judge 11 0 R 14 L (.ref o :: st) μ ↔ gc_W (gc_S d) cX11_judge 11 0 R 17 L (gc_fv o 4 μ :: st) μ := us_getf dX11_judge_14 gf_11_54 hk
theorem u134_17 {d : Nat} {R : gR} {μ : gM} {l0 l2 l3 l4 : Value} {st : List Value} {x : Int32}  : gc_W (gc_S d) cX11_judge 11 0 R 17 [l0, .int x, l2, l3, l4] st μ ↔ gc_W (gc_S d) cX11_judge 11 0 R 18 [l0, .int x, l2, l3, l4] (.int x :: st) μ := us_iload_n dX11_judge_17 rfl
theorem u134_18 {d : Nat} {R : gR} {μ : gM} {L : List Value} {st : List Value} {o : Nat} {i : Int32} {q : Nat} (hk : gc_kd o = q) (hq : (Nat.ble 22 q && Nat.ble q 24) = true) : gc_W (gc_S d) cX11_judge 11 0 R 18 L (.int i :: .ref o :: st) μ ↔ (vp_in i (gc_al o) ∧ gc_W (gc_S d) cX11_judge 11 0 R 19 L (.ref (gc_ra o i.toNatClampNeg) :: st) μ) := us_aald dX11_judge_18 hk hq
theorem u134_19 {d : Nat} {R : gR} {μ : gM} {l0 l1 l2 l3 l4 : Value} {st : List Value} {x : Nat} (hs : gc_sk l2 = true) : gc_W (gc_S d) cX11_judge 11 0 R 19 [l0, l1, l2, l3, l4] (.ref x :: st) μ ↔ gc_W (gc_S d) cX11_judge 11 0 R 20 [l0, l1, .ref x, l3, l4] st μ := us_astore_n dX11_judge_19 rfl hs
theorem u134_20 {d : Nat} {R : gR} {μ : gM} {l0 l1 l3 l4 : Value} {st : List Value} {x : Nat}  : gc_W (gc_S d) cX11_judge 11 0 R 20 [l0, l1, .ref x, l3, l4] st μ ↔ gc_W (gc_S d) cX11_judge 11 0 R 21 [l0, l1, .ref x, l3, l4] (.ref x :: st) μ := us_aload_n dX11_judge_20 rfl
theorem u134_21 {d : Nat} {R : gR} {μ : gM} {L : List Value} {st : List Value} {o : Nat} (hk : gc_kd o = 7) : gc_W (gc_S d) cX11_judge 11 0 R 21 L (.ref o :: st) μ ↔ gc_W (gc_S d) cX11_judge 11 0 R 24 L (gc_fv o 2 μ :: st) μ := us_getf dX11_judge_21 gf_11_235 hk
theorem u134_24 {d : Nat} {R : gR} {μ : gM} {L : List Value} {st : List Value} {x : Int32}  : gc_W (gc_S d) cX11_judge 11 0 R 24 L (.int x :: st) μ ↔ if x = 0 then gc_W (gc_S d) cX11_judge 11 0 R 27 L st μ else gc_W (gc_S d) cX11_judge 11 0 R 33 L st μ := us_ifne dX11_judge_24 rfl
theorem u134_27 {d : Nat} {R : gR} {μ : gM} {l1 l2 l3 l4 : Value} {st : List Value} {x : Nat}  : gc_W (gc_S d) cX11_judge 11 0 R 27 [.ref x, l1, l2, l3, l4] st μ ↔ gc_W (gc_S d) cX11_judge 11 0 R 28 [.ref x, l1, l2, l3, l4] (.ref x :: st) μ := us_aload_n dX11_judge_27 rfl
theorem u134_28 {d : Nat} {R : gR} {μ : gM} {L : List Value} {st : List Value}   : gc_W (gc_S d) cX11_judge 11 0 R 28 L st μ ↔ gc_W (gc_S d) cX11_judge 11 0 R 29 L (.int 2 :: st) μ := us_iconst dX11_judge_28 ci_iconst_2
theorem u134_29 {d : Nat} {R : gR} {μ : gM} {L : List Value} {o : Nat} {a0 : Int32} (hk : gc_kd o = 11) : gc_W (gc_S d) cX11_judge 11 0 R 29 L [.int a0, .ref o] μ ↔ gc_S d 75 [.ref o, .int a0] μ (fun v μ' => gc_W (gc_S d) cX11_judge 11 0 R 32 L (v.toList ++ []) μ') := us_virt dX11_judge_29 gn_11_88 gc_11_88_11 hk rfl rfl rfl rfl rfl
theorem u134_32 {d : Nat} {R : gR} {μ : gM} {L : List Value} {v : Int32}  : gc_W (gc_S d) cX11_judge 11 0 R 32 L [.int v] μ ↔ R (some (.int v)) μ := us_iret dX11_judge_32 rfl
theorem u134_33 {d : Nat} {R : gR} {μ : gM} {l0 l1 l3 l4 : Value} {st : List Value} {x : Nat}  : gc_W (gc_S d) cX11_judge 11 0 R 33 [l0, l1, .ref x, l3, l4] st μ ↔ gc_W (gc_S d) cX11_judge 11 0 R 34 [l0, l1, .ref x, l3, l4] (.ref x :: st) μ := us_aload_n dX11_judge_33 rfl
theorem u134_34 {d : Nat} {R : gR} {μ : gM} {L : List Value} {st : List Value} {o : Nat} (hk : gc_kd o = 7) : gc_W (gc_S d) cX11_judge 11 0 R 34 L (.ref o :: st) μ ↔ gc_W (gc_S d) cX11_judge 11 0 R 37 L (gc_fv o 1 μ :: st) μ := us_getf dX11_judge_34 gf_11_161 hk
theorem u134_37 {d : Nat} {R : gR} {μ : gM} {l1 l2 l3 l4 : Value} {st : List Value} {x : Nat}  : gc_W (gc_S d) cX11_judge 11 0 R 37 [.ref x, l1, l2, l3, l4] st μ ↔ gc_W (gc_S d) cX11_judge 11 0 R 38 [.ref x, l1, l2, l3, l4] (.ref x :: st) μ := us_aload_n dX11_judge_37 rfl
theorem u134_38 {d : Nat} {R : gR} {μ : gM} {L : List Value} {st : List Value} {o : Nat} (hk : gc_kd o = 11) : gc_W (gc_S d) cX11_judge 11 0 R 38 L (.ref o :: st) μ ↔ gc_W (gc_S d) cX11_judge 11 0 R 41 L (gc_fv o 0 μ :: st) μ := us_getf dX11_judge_38 gf_11_38 hk
theorem u134_41 {d : Nat} {R : gR} {μ : gM} {L : List Value} {st : List Value} {o : Nat} (hk : gc_kd o = 0) : gc_W (gc_S d) cX11_judge 11 0 R 41 L (.ref o :: st) μ ↔ gc_W (gc_S d) cX11_judge 11 0 R 44 L (gc_fv o 13 μ :: st) μ := us_getf dX11_judge_41 gf_11_120 hk
theorem u134_44 {d : Nat} {R : gR} {μ : gM} {L : List Value} {x y : Int32}  : gc_W (gc_S d) cX11_judge 11 0 R 44 L [.int y, .int x] μ ↔ gc_W (gc_S d) cX11_judge 11 0 R 47 L [.int (if y < x then y else x)] μ := us_min dX11_judge_44 gs_11_292 rfl
theorem u134_47 {d : Nat} {R : gR} {μ : gM} {l0 l1 l2 l3 l4 : Value} {st : List Value} {x : Int32} (hs : gc_sk l3 = true) : gc_W (gc_S d) cX11_judge 11 0 R 47 [l0, l1, l2, l3, l4] (.int x :: st) μ ↔ gc_W (gc_S d) cX11_judge 11 0 R 48 [l0, l1, l2, .int x, l4] st μ := us_istore_n dX11_judge_47 rfl hs
theorem u134_48 {d : Nat} {R : gR} {μ : gM} {L : List Value} {st : List Value}   : gc_W (gc_S d) cX11_judge 11 0 R 48 L st μ ↔ gc_W (gc_S d) cX11_judge 11 0 R 49 L (.int 0 :: st) μ := us_iconst dX11_judge_48 ci_iconst_0
theorem u134_49 {d : Nat} {R : gR} {μ : gM} {l0 l1 l2 l3 l4 : Value} {st : List Value} {x : Int32} (hs : gc_sk l4 = true) : gc_W (gc_S d) cX11_judge 11 0 R 49 [l0, l1, l2, l3, l4] (.int x :: st) μ ↔ gc_W (gc_S d) cX11_judge 11 0 R 51 [l0, l1, l2, l3, .int x] st μ := us_istore dX11_judge_49 rfl hs
theorem u134_51 {d : Nat} {R : gR} {μ : gM} {l0 l1 l2 l3 : Value} {st : List Value} {x : Int32}  : gc_W (gc_S d) cX11_judge 11 0 R 51 [l0, l1, l2, l3, .int x] st μ ↔ gc_W (gc_S d) cX11_judge 11 0 R 53 [l0, l1, l2, l3, .int x] (.int x :: st) μ := us_iload dX11_judge_51 rfl
theorem u134_53 {d : Nat} {R : gR} {μ : gM} {l0 l1 l2 l4 : Value} {st : List Value} {x : Int32}  : gc_W (gc_S d) cX11_judge 11 0 R 53 [l0, l1, l2, .int x, l4] st μ ↔ gc_W (gc_S d) cX11_judge 11 0 R 54 [l0, l1, l2, .int x, l4] (.int x :: st) μ := us_iload_n dX11_judge_53 rfl
theorem u134_54 {d : Nat} {R : gR} {μ : gM} {L : List Value} {st : List Value} {x y : Int32}  : gc_W (gc_S d) cX11_judge 11 0 R 54 L (.int y :: .int x :: st) μ ↔ if y ≤ x then gc_W (gc_S d) cX11_judge 11 0 R 86 L st μ else gc_W (gc_S d) cX11_judge 11 0 R 57 L st μ := us_icge dX11_judge_54 rfl
theorem u134_57 {d : Nat} {R : gR} {μ : gM} {l0 l1 l3 l4 : Value} {st : List Value} {x : Nat}  : gc_W (gc_S d) cX11_judge 11 0 R 57 [l0, l1, .ref x, l3, l4] st μ ↔ gc_W (gc_S d) cX11_judge 11 0 R 58 [l0, l1, .ref x, l3, l4] (.ref x :: st) μ := us_aload_n dX11_judge_57 rfl
theorem u134_58 {d : Nat} {R : gR} {μ : gM} {L : List Value} {st : List Value} {o : Nat} (hk : gc_kd o = 7) : gc_W (gc_S d) cX11_judge 11 0 R 58 L (.ref o :: st) μ ↔ gc_W (gc_S d) cX11_judge 11 0 R 61 L (gc_fv o 0 μ :: st) μ := us_getf dX11_judge_58 gf_11_273 hk
theorem u134_61 {d : Nat} {R : gR} {μ : gM} {l0 l1 l2 l3 : Value} {st : List Value} {x : Int32}  : gc_W (gc_S d) cX11_judge 11 0 R 61 [l0, l1, l2, l3, .int x] st μ ↔ gc_W (gc_S d) cX11_judge 11 0 R 63 [l0, l1, l2, l3, .int x] (.int x :: st) μ := us_iload dX11_judge_61 rfl
theorem u134_63 {d : Nat} {R : gR} {μ : gM} {L : List Value} {st : List Value} {o : Nat} {i : Int32} (hk : gc_kd o = 20) : gc_W (gc_S d) cX11_judge 11 0 R 63 L (.int i :: .ref o :: st) μ ↔ (vp_in i (gc_al o) ∧ gc_W (gc_S d) cX11_judge 11 0 R 64 L (.int (μ o i.toNatClampNeg) :: st) μ) := us_iald dX11_judge_63 hk
theorem u134_64 {d : Nat} {R : gR} {μ : gM} {l1 l2 l3 l4 : Value} {st : List Value} {x : Nat}  : gc_W (gc_S d) cX11_judge 11 0 R 64 [.ref x, l1, l2, l3, l4] st μ ↔ gc_W (gc_S d) cX11_judge 11 0 R 65 [.ref x, l1, l2, l3, l4] (.ref x :: st) μ := us_aload_n dX11_judge_64 rfl
theorem u134_65 {d : Nat} {R : gR} {μ : gM} {L : List Value} {st : List Value} {o : Nat} (hk : gc_kd o = 11) : gc_W (gc_S d) cX11_judge 11 0 R 65 L (.ref o :: st) μ ↔ gc_W (gc_S d) cX11_judge 11 0 R 68 L (gc_fv o 0 μ :: st) μ := us_getf dX11_judge_65 gf_11_38 hk
theorem u134_68 {d : Nat} {R : gR} {μ : gM} {L : List Value} {st : List Value} {o : Nat} (hk : gc_kd o = 0) : gc_W (gc_S d) cX11_judge 11 0 R 68 L (.ref o :: st) μ ↔ gc_W (gc_S d) cX11_judge 11 0 R 71 L (gc_fv o 7 μ :: st) μ := us_getf dX11_judge_68 gf_11_129 hk
theorem u134_71 {d : Nat} {R : gR} {μ : gM} {l0 l1 l2 l3 : Value} {st : List Value} {x : Int32}  : gc_W (gc_S d) cX11_judge 11 0 R 71 [l0, l1, l2, l3, .int x] st μ ↔ gc_W (gc_S d) cX11_judge 11 0 R 73 [l0, l1, l2, l3, .int x] (.int x :: st) μ := us_iload dX11_judge_71 rfl
theorem u134_73 {d : Nat} {R : gR} {μ : gM} {L : List Value} {st : List Value} {o : Nat} {i : Int32} (hk : gc_kd o = 20) : gc_W (gc_S d) cX11_judge 11 0 R 73 L (.int i :: .ref o :: st) μ ↔ (vp_in i (gc_al o) ∧ gc_W (gc_S d) cX11_judge 11 0 R 74 L (.int (μ o i.toNatClampNeg) :: st) μ) := us_iald dX11_judge_73 hk
theorem u134_74 {d : Nat} {R : gR} {μ : gM} {L : List Value} {st : List Value} {x y : Int32}  : gc_W (gc_S d) cX11_judge 11 0 R 74 L (.int y :: .int x :: st) μ ↔ if x = y then gc_W (gc_S d) cX11_judge 11 0 R 80 L st μ else gc_W (gc_S d) cX11_judge 11 0 R 77 L st μ := us_iceq dX11_judge_74 rfl
theorem u134_77 {d : Nat} {R : gR} {μ : gM} {l0 l1 l2 l3 : Value} {st : List Value} {x : Int32}  : gc_W (gc_S d) cX11_judge 11 0 R 77 [l0, l1, l2, l3, .int x] st μ ↔ gc_W (gc_S d) cX11_judge 11 0 R 79 [l0, l1, l2, l3, .int x] (.int x :: st) μ := us_iload dX11_judge_77 rfl
theorem u134_79 {d : Nat} {R : gR} {μ : gM} {L : List Value} {v : Int32}  : gc_W (gc_S d) cX11_judge 11 0 R 79 L [.int v] μ ↔ R (some (.int v)) μ := us_iret dX11_judge_79 rfl
theorem u134_80 {d : Nat} {R : gR} {μ : gM} {l0 l1 l2 l3 : Value} {st : List Value} {x : Int32}  : gc_W (gc_S d) cX11_judge 11 0 R 80 [l0, l1, l2, l3, .int x] st μ ↔ gc_W (gc_S d) cX11_judge 11 0 R 83 [l0, l1, l2, l3, .int (x + 1)] st μ := us_iinc dX11_judge_80 rfl ci_iinc_1
theorem u134_83 {d : Nat} {R : gR} {μ : gM} {L : List Value} {st : List Value}  : gc_W (gc_S d) cX11_judge 11 0 R 83 L st μ ↔ gc_W (gc_S d) cX11_judge 11 0 R 51 L st μ := us_goto dX11_judge_83 rfl
theorem u134_86 {d : Nat} {R : gR} {μ : gM} {l0 l1 l3 l4 : Value} {st : List Value} {x : Nat}  : gc_W (gc_S d) cX11_judge 11 0 R 86 [l0, l1, .ref x, l3, l4] st μ ↔ gc_W (gc_S d) cX11_judge 11 0 R 87 [l0, l1, .ref x, l3, l4] (.ref x :: st) μ := us_aload_n dX11_judge_86 rfl
theorem u134_87 {d : Nat} {R : gR} {μ : gM} {L : List Value} {st : List Value} {o : Nat} (hk : gc_kd o = 7) : gc_W (gc_S d) cX11_judge 11 0 R 87 L (.ref o :: st) μ ↔ gc_W (gc_S d) cX11_judge 11 0 R 90 L (gc_fv o 1 μ :: st) μ := us_getf dX11_judge_87 gf_11_161 hk
theorem u134_90 {d : Nat} {R : gR} {μ : gM} {l1 l2 l3 l4 : Value} {st : List Value} {x : Nat}  : gc_W (gc_S d) cX11_judge 11 0 R 90 [.ref x, l1, l2, l3, l4] st μ ↔ gc_W (gc_S d) cX11_judge 11 0 R 91 [.ref x, l1, l2, l3, l4] (.ref x :: st) μ := us_aload_n dX11_judge_90 rfl
theorem u134_91 {d : Nat} {R : gR} {μ : gM} {L : List Value} {st : List Value} {o : Nat} (hk : gc_kd o = 11) : gc_W (gc_S d) cX11_judge 11 0 R 91 L (.ref o :: st) μ ↔ gc_W (gc_S d) cX11_judge 11 0 R 94 L (gc_fv o 0 μ :: st) μ := us_getf dX11_judge_91 gf_11_38 hk
theorem u134_94 {d : Nat} {R : gR} {μ : gM} {L : List Value} {st : List Value} {o : Nat} (hk : gc_kd o = 0) : gc_W (gc_S d) cX11_judge 11 0 R 94 L (.ref o :: st) μ ↔ gc_W (gc_S d) cX11_judge 11 0 R 97 L (gc_fv o 13 μ :: st) μ := us_getf dX11_judge_94 gf_11_120 hk
theorem u134_97 {d : Nat} {R : gR} {μ : gM} {L : List Value} {st : List Value} {x y : Int32}  : gc_W (gc_S d) cX11_judge 11 0 R 97 L (.int y :: .int x :: st) μ ↔ if x = y then gc_W (gc_S d) cX11_judge 11 0 R 100 L st μ else gc_W (gc_S d) cX11_judge 11 0 R 104 L st μ := us_icne dX11_judge_97 rfl
theorem u134_100 {d : Nat} {R : gR} {μ : gM} {L : List Value} {st : List Value}   : gc_W (gc_S d) cX11_judge 11 0 R 100 L st μ ↔ gc_W (gc_S d) cX11_judge 11 0 R 101 L (.int (-1) :: st) μ := us_iconst dX11_judge_100 ci_iconst_m1
theorem u134_101 {d : Nat} {R : gR} {μ : gM} {L : List Value} {st : List Value}  : gc_W (gc_S d) cX11_judge 11 0 R 101 L st μ ↔ gc_W (gc_S d) cX11_judge 11 0 R 105 L st μ := us_goto dX11_judge_101 rfl
theorem u134_104 {d : Nat} {R : gR} {μ : gM} {l0 l1 l2 l4 : Value} {st : List Value} {x : Int32}  : gc_W (gc_S d) cX11_judge 11 0 R 104 [l0, l1, l2, .int x, l4] st μ ↔ gc_W (gc_S d) cX11_judge 11 0 R 105 [l0, l1, l2, .int x, l4] (.int x :: st) μ := us_iload_n dX11_judge_104 rfl
theorem u134_105 {d : Nat} {R : gR} {μ : gM} {L : List Value} {v : Int32}  : gc_W (gc_S d) cX11_judge 11 0 R 105 L [.int v] μ ↔ R (some (.int v)) μ := us_iret dX11_judge_105 rfl
theorem s134 {d : Nat} {R : gR} {μ : gM} {o : Nat} {a0 : Int32} : gc_S (d + 1) 134 [.ref o, .int a0] μ R ↔ gc_W (gc_S d) cX11_judge 11 0 R 0 [.ref o, .int a0, .retAddr 0, .retAddr 0, .retAddr 0] [] μ := us_call (gm_134) rfl rfl
theorem dX11_image_0 : decode cX11_image 0 = .ok (.aload_n 0, 1) := by decide +kernel
theorem dX11_image_1 : decode cX11_image 1 = .ok (.getfield 45, 3) := by decide +kernel
theorem dX11_image_4 : decode cX11_image 4 = .ok (.aload_n 0, 1) := by decide +kernel
theorem dX11_image_5 : decode cX11_image 5 = .ok (.getfield 38, 3) := by decide +kernel
theorem dX11_image_8 : decode cX11_image 8 = .ok (.invokevirtual 297, 3) := by decide +kernel
theorem dX11_image_11 : decode cX11_image 11 = .ok (.aload_n 0, 1) := by decide +kernel
theorem dX11_image_12 : decode cX11_image 12 = .ok (.dup, 1) := by decide +kernel
theorem dX11_image_13 : decode cX11_image 13 = .ok (.getfield 301, 3) := by decide +kernel
theorem dX11_image_16 : decode cX11_image 16 = .ok (.iconst 1, 1) := by decide +kernel
theorem dX11_image_17 : decode cX11_image 17 = .ok (.iadd, 1) := by decide +kernel
theorem dX11_image_18 : decode cX11_image 18 = .ok (.putfield 301, 3) := by decide +kernel
theorem dX11_image_21 : decode cX11_image 21 = .ok (.aload_n 0, 1) := by decide +kernel
theorem dX11_image_22 : decode cX11_image 22 = .ok (.getfield 301, 3) := by decide +kernel
theorem dX11_image_25 : decode cX11_image 25 = .ok (.ireturn, 1) := by decide +kernel
theorem u135_0 {d : Nat} {R : gR} {μ : gM} {st : List Value} {x : Nat}  : gc_W (gc_S d) cX11_image 11 0 R 0 [.ref x] st μ ↔ gc_W (gc_S d) cX11_image 11 0 R 1 [.ref x] (.ref x :: st) μ := us_aload_n dX11_image_0 rfl
theorem u135_1 {d : Nat} {R : gR} {μ : gM} {L : List Value} {st : List Value} {o : Nat} (hk : gc_kd o = 11) : gc_W (gc_S d) cX11_image 11 0 R 1 L (.ref o :: st) μ ↔ gc_W (gc_S d) cX11_image 11 0 R 4 L (gc_fv o 2 μ :: st) μ := us_getf dX11_image_1 gf_11_45 hk
theorem u135_4 {d : Nat} {R : gR} {μ : gM} {st : List Value} {x : Nat}  : gc_W (gc_S d) cX11_image 11 0 R 4 [.ref x] st μ ↔ gc_W (gc_S d) cX11_image 11 0 R 5 [.ref x] (.ref x :: st) μ := us_aload_n dX11_image_4 rfl
theorem u135_5 {d : Nat} {R : gR} {μ : gM} {L : List Value} {st : List Value} {o : Nat} (hk : gc_kd o = 11) : gc_W (gc_S d) cX11_image 11 0 R 5 L (.ref o :: st) μ ↔ gc_W (gc_S d) cX11_image 11 0 R 8 L (gc_fv o 0 μ :: st) μ := us_getf dX11_image_5 gf_11_38 hk
theorem u135_8 {d : Nat} {R : gR} {μ : gM} {L : List Value} {o : Nat} {a0 : Nat} (hk : gc_kd o = 0) : gc_W (gc_S d) cX11_image 11 0 R 8 L [.ref a0, .ref o] μ ↔ gc_S d 2 [.ref o, .ref a0] μ (fun v μ' => gc_W (gc_S d) cX11_image 11 0 R 11 L (v.toList ++ []) μ') := us_virt dX11_image_8 gn_11_297 gc_11_297_0 hk rfl rfl rfl rfl rfl
theorem u135_11 {d : Nat} {R : gR} {μ : gM} {st : List Value} {x : Nat}  : gc_W (gc_S d) cX11_image 11 0 R 11 [.ref x] st μ ↔ gc_W (gc_S d) cX11_image 11 0 R 12 [.ref x] (.ref x :: st) μ := us_aload_n dX11_image_11 rfl
theorem u135_12 {d : Nat} {R : gR} {μ : gM} {L : List Value} {st : List Value} {x : Nat}  : gc_W (gc_S d) cX11_image 11 0 R 12 L (.ref x :: st) μ ↔ gc_W (gc_S d) cX11_image 11 0 R 13 L (.ref x :: .ref x :: st) μ := us_dup_r dX11_image_12
theorem u135_13 {d : Nat} {R : gR} {μ : gM} {L : List Value} {st : List Value} {o : Nat} (hk : gc_kd o = 11) : gc_W (gc_S d) cX11_image 11 0 R 13 L (.ref o :: st) μ ↔ gc_W (gc_S d) cX11_image 11 0 R 16 L (gc_fv o 9 μ :: st) μ := us_getf dX11_image_13 gf_11_301 hk
theorem u135_16 {d : Nat} {R : gR} {μ : gM} {L : List Value} {st : List Value}   : gc_W (gc_S d) cX11_image 11 0 R 16 L st μ ↔ gc_W (gc_S d) cX11_image 11 0 R 17 L (.int 1 :: st) μ := us_iconst dX11_image_16 ci_iconst_1
theorem u135_17 {d : Nat} {R : gR} {μ : gM} {L : List Value} {st : List Value} {x y : Int32}  : gc_W (gc_S d) cX11_image 11 0 R 17 L (.int y :: .int x :: st) μ ↔ gc_W (gc_S d) cX11_image 11 0 R 18 L (.int (x + y) :: st) μ := us_iadd dX11_image_17
theorem u135_18 {d : Nat} {R : gR} {μ : gM} {L : List Value} {st : List Value} {o : Nat} {x : Int32} (hk : gc_kd o = 11) (hj : gc_fk o 9 = 0) : gc_W (gc_S d) cX11_image 11 0 R 18 L (.int x :: .ref o :: st) μ ↔ gc_W (gc_S d) cX11_image 11 0 R 21 L st (gc_up μ o 9 x) := us_putf dX11_image_18 gf_11_301 hk hj rfl
theorem u135_21 {d : Nat} {R : gR} {μ : gM} {st : List Value} {x : Nat}  : gc_W (gc_S d) cX11_image 11 0 R 21 [.ref x] st μ ↔ gc_W (gc_S d) cX11_image 11 0 R 22 [.ref x] (.ref x :: st) μ := us_aload_n dX11_image_21 rfl
theorem u135_22 {d : Nat} {R : gR} {μ : gM} {L : List Value} {st : List Value} {o : Nat} (hk : gc_kd o = 11) : gc_W (gc_S d) cX11_image 11 0 R 22 L (.ref o :: st) μ ↔ gc_W (gc_S d) cX11_image 11 0 R 25 L (gc_fv o 9 μ :: st) μ := us_getf dX11_image_22 gf_11_301 hk
theorem u135_25 {d : Nat} {R : gR} {μ : gM} {L : List Value} {v : Int32}  : gc_W (gc_S d) cX11_image 11 0 R 25 L [.int v] μ ↔ R (some (.int v)) μ := us_iret dX11_image_25 rfl
theorem s135 {d : Nat} {R : gR} {μ : gM} {o : Nat} : gc_S (d + 1) 135 [.ref o] μ R ↔ gc_W (gc_S d) cX11_image 11 0 R 0 [.ref o] [] μ := us_call (gm_135) rfl rfl
theorem dX11_restore_0 : decode cX11_restore 0 = .ok (.aload_n 0, 1) := by decide +kernel
theorem dX11_restore_1 : decode cX11_restore 1 = .ok (.getfield 301, 3) := by decide +kernel
theorem dX11_restore_4 : decode cX11_restore 4 = .ok (.ifCond .ne 9, 3) := by decide +kernel
theorem dX11_restore_7 : decode cX11_restore 7 = .ok (.aload_n 0, 1) := by decide +kernel
theorem dX11_restore_8 : decode cX11_restore 8 = .ok (.iconst 2, 1) := by decide +kernel
theorem dX11_restore_9 : decode cX11_restore 9 = .ok (.invokevirtual 88, 3) := by decide +kernel
theorem dX11_restore_12 : decode cX11_restore 12 = .ok (.ireturn, 1) := by decide +kernel
theorem dX11_restore_13 : decode cX11_restore 13 = .ok (.aload_n 0, 1) := by decide +kernel
theorem dX11_restore_14 : decode cX11_restore 14 = .ok (.getfield 38, 3) := by decide +kernel
theorem dX11_restore_17 : decode cX11_restore 17 = .ok (.aload_n 0, 1) := by decide +kernel
theorem dX11_restore_18 : decode cX11_restore 18 = .ok (.getfield 45, 3) := by decide +kernel
theorem dX11_restore_21 : decode cX11_restore 21 = .ok (.invokevirtual 297, 3) := by decide +kernel
theorem dX11_restore_24 : decode cX11_restore 24 = .ok (.aload_n 0, 1) := by decide +kernel
theorem dX11_restore_25 : decode cX11_restore 25 = .ok (.getfield 38, 3) := by decide +kernel
theorem dX11_restore_28 : decode cX11_restore 28 = .ok (.getfield 149, 3) := by decide +kernel
theorem dX11_restore_31 : decode cX11_restore 31 = .ok (.ireturn, 1) := by decide +kernel
theorem u136_0 {d : Nat} {R : gR} {μ : gM} {st : List Value} {x : Nat}  : gc_W (gc_S d) cX11_restore 11 0 R 0 [.ref x] st μ ↔ gc_W (gc_S d) cX11_restore 11 0 R 1 [.ref x] (.ref x :: st) μ := us_aload_n dX11_restore_0 rfl
theorem u136_1 {d : Nat} {R : gR} {μ : gM} {L : List Value} {st : List Value} {o : Nat} (hk : gc_kd o = 11) : gc_W (gc_S d) cX11_restore 11 0 R 1 L (.ref o :: st) μ ↔ gc_W (gc_S d) cX11_restore 11 0 R 4 L (gc_fv o 9 μ :: st) μ := us_getf dX11_restore_1 gf_11_301 hk
theorem u136_4 {d : Nat} {R : gR} {μ : gM} {L : List Value} {st : List Value} {x : Int32}  : gc_W (gc_S d) cX11_restore 11 0 R 4 L (.int x :: st) μ ↔ if x = 0 then gc_W (gc_S d) cX11_restore 11 0 R 7 L st μ else gc_W (gc_S d) cX11_restore 11 0 R 13 L st μ := us_ifne dX11_restore_4 rfl
theorem u136_7 {d : Nat} {R : gR} {μ : gM} {st : List Value} {x : Nat}  : gc_W (gc_S d) cX11_restore 11 0 R 7 [.ref x] st μ ↔ gc_W (gc_S d) cX11_restore 11 0 R 8 [.ref x] (.ref x :: st) μ := us_aload_n dX11_restore_7 rfl
theorem u136_8 {d : Nat} {R : gR} {μ : gM} {L : List Value} {st : List Value}   : gc_W (gc_S d) cX11_restore 11 0 R 8 L st μ ↔ gc_W (gc_S d) cX11_restore 11 0 R 9 L (.int 2 :: st) μ := us_iconst dX11_restore_8 ci_iconst_2
theorem u136_9 {d : Nat} {R : gR} {μ : gM} {L : List Value} {o : Nat} {a0 : Int32} (hk : gc_kd o = 11) : gc_W (gc_S d) cX11_restore 11 0 R 9 L [.int a0, .ref o] μ ↔ gc_S d 75 [.ref o, .int a0] μ (fun v μ' => gc_W (gc_S d) cX11_restore 11 0 R 12 L (v.toList ++ []) μ') := us_virt dX11_restore_9 gn_11_88 gc_11_88_11 hk rfl rfl rfl rfl rfl
theorem u136_12 {d : Nat} {R : gR} {μ : gM} {L : List Value} {v : Int32}  : gc_W (gc_S d) cX11_restore 11 0 R 12 L [.int v] μ ↔ R (some (.int v)) μ := us_iret dX11_restore_12 rfl
theorem u136_13 {d : Nat} {R : gR} {μ : gM} {st : List Value} {x : Nat}  : gc_W (gc_S d) cX11_restore 11 0 R 13 [.ref x] st μ ↔ gc_W (gc_S d) cX11_restore 11 0 R 14 [.ref x] (.ref x :: st) μ := us_aload_n dX11_restore_13 rfl
theorem u136_14 {d : Nat} {R : gR} {μ : gM} {L : List Value} {st : List Value} {o : Nat} (hk : gc_kd o = 11) : gc_W (gc_S d) cX11_restore 11 0 R 14 L (.ref o :: st) μ ↔ gc_W (gc_S d) cX11_restore 11 0 R 17 L (gc_fv o 0 μ :: st) μ := us_getf dX11_restore_14 gf_11_38 hk
theorem u136_17 {d : Nat} {R : gR} {μ : gM} {st : List Value} {x : Nat}  : gc_W (gc_S d) cX11_restore 11 0 R 17 [.ref x] st μ ↔ gc_W (gc_S d) cX11_restore 11 0 R 18 [.ref x] (.ref x :: st) μ := us_aload_n dX11_restore_17 rfl
theorem u136_18 {d : Nat} {R : gR} {μ : gM} {L : List Value} {st : List Value} {o : Nat} (hk : gc_kd o = 11) : gc_W (gc_S d) cX11_restore 11 0 R 18 L (.ref o :: st) μ ↔ gc_W (gc_S d) cX11_restore 11 0 R 21 L (gc_fv o 2 μ :: st) μ := us_getf dX11_restore_18 gf_11_45 hk
theorem u136_21 {d : Nat} {R : gR} {μ : gM} {L : List Value} {o : Nat} {a0 : Nat} (hk : gc_kd o = 0) : gc_W (gc_S d) cX11_restore 11 0 R 21 L [.ref a0, .ref o] μ ↔ gc_S d 2 [.ref o, .ref a0] μ (fun v μ' => gc_W (gc_S d) cX11_restore 11 0 R 24 L (v.toList ++ []) μ') := us_virt dX11_restore_21 gn_11_297 gc_11_297_0 hk rfl rfl rfl rfl rfl
theorem u136_24 {d : Nat} {R : gR} {μ : gM} {st : List Value} {x : Nat}  : gc_W (gc_S d) cX11_restore 11 0 R 24 [.ref x] st μ ↔ gc_W (gc_S d) cX11_restore 11 0 R 25 [.ref x] (.ref x :: st) μ := us_aload_n dX11_restore_24 rfl
theorem u136_25 {d : Nat} {R : gR} {μ : gM} {L : List Value} {st : List Value} {o : Nat} (hk : gc_kd o = 11) : gc_W (gc_S d) cX11_restore 11 0 R 25 L (.ref o :: st) μ ↔ gc_W (gc_S d) cX11_restore 11 0 R 28 L (gc_fv o 0 μ :: st) μ := us_getf dX11_restore_25 gf_11_38 hk
theorem u136_28 {d : Nat} {R : gR} {μ : gM} {L : List Value} {st : List Value} {o : Nat} (hk : gc_kd o = 0) : gc_W (gc_S d) cX11_restore 11 0 R 28 L (.ref o :: st) μ ↔ gc_W (gc_S d) cX11_restore 11 0 R 31 L (gc_fv o 12 μ :: st) μ := us_getf dX11_restore_28 gf_11_149 hk
theorem u136_31 {d : Nat} {R : gR} {μ : gM} {L : List Value} {v : Int32}  : gc_W (gc_S d) cX11_restore 11 0 R 31 L [.int v] μ ↔ R (some (.int v)) μ := us_iret dX11_restore_31 rfl
theorem s136 {d : Nat} {R : gR} {μ : gM} {o : Nat} : gc_S (d + 1) 136 [.ref o] μ R ↔ gc_W (gc_S d) cX11_restore 11 0 R 0 [.ref o] [] μ := us_call (gm_136) rfl rfl
theorem dX11_tell_0 : decode cX11_tell 0 = .ok (.aload_n 0, 1) := by decide +kernel
theorem dX11_tell_1 : decode cX11_tell 1 = .ok (.getfield 38, 3) := by decide +kernel
theorem dX11_tell_4 : decode cX11_tell 4 = .ok (.getfield 304, 3) := by decide +kernel
theorem dX11_tell_7 : decode cX11_tell 7 = .ok (.getfield 161, 3) := by decide +kernel
theorem dX11_tell_10 : decode cX11_tell 10 = .ok (.bipush 20, 2) := by decide +kernel
theorem dX11_tell_12 : decode cX11_tell 12 = .ok (.if_icmp .lt 9, 3) := by decide +kernel
theorem dX11_tell_15 : decode cX11_tell 15 = .ok (.aload_n 0, 1) := by decide +kernel
theorem dX11_tell_16 : decode cX11_tell 16 = .ok (.iconst 4, 1) := by decide +kernel
theorem dX11_tell_17 : decode cX11_tell 17 = .ok (.invokevirtual 88, 3) := by decide +kernel
theorem dX11_tell_20 : decode cX11_tell 20 = .ok (.ireturn, 1) := by decide +kernel
theorem dX11_tell_21 : decode cX11_tell 21 = .ok (.aload_n 0, 1) := by decide +kernel
theorem dX11_tell_22 : decode cX11_tell 22 = .ok (.getfield 38, 3) := by decide +kernel
theorem dX11_tell_25 : decode cX11_tell 25 = .ok (.getfield 304, 3) := by decide +kernel
theorem dX11_tell_28 : decode cX11_tell 28 = .ok (.iload_n 1, 1) := by decide +kernel
theorem dX11_tell_29 : decode cX11_tell 29 = .ok (.invokevirtual 164, 3) := by decide +kernel
theorem dX11_tell_32 : decode cX11_tell 32 = .ok (.aload_n 0, 1) := by decide +kernel
theorem dX11_tell_33 : decode cX11_tell 33 = .ok (.getfield 38, 3) := by decide +kernel
theorem dX11_tell_36 : decode cX11_tell 36 = .ok (.getfield 304, 3) := by decide +kernel
theorem dX11_tell_39 : decode cX11_tell 39 = .ok (.getfield 161, 3) := by decide +kernel
theorem dX11_tell_42 : decode cX11_tell 42 = .ok (.ireturn, 1) := by decide +kernel
theorem u137_0 {d : Nat} {R : gR} {μ : gM} {l1 : Value} {st : List Value} {x : Nat}  : gc_W (gc_S d) cX11_tell 11 0 R 0 [.ref x, l1] st μ ↔ gc_W (gc_S d) cX11_tell 11 0 R 1 [.ref x, l1] (.ref x :: st) μ := us_aload_n dX11_tell_0 rfl
theorem u137_1 {d : Nat} {R : gR} {μ : gM} {L : List Value} {st : List Value} {o : Nat} (hk : gc_kd o = 11) : gc_W (gc_S d) cX11_tell 11 0 R 1 L (.ref o :: st) μ ↔ gc_W (gc_S d) cX11_tell 11 0 R 4 L (gc_fv o 0 μ :: st) μ := us_getf dX11_tell_1 gf_11_38 hk
theorem u137_4 {d : Nat} {R : gR} {μ : gM} {L : List Value} {st : List Value} {o : Nat} (hk : gc_kd o = 0) : gc_W (gc_S d) cX11_tell 11 0 R 4 L (.ref o :: st) μ ↔ gc_W (gc_S d) cX11_tell 11 0 R 7 L (gc_fv o 10 μ :: st) μ := us_getf dX11_tell_4 gf_11_304 hk
theorem u137_7 {d : Nat} {R : gR} {μ : gM} {L : List Value} {st : List Value} {o : Nat} (hk : gc_kd o = 7) : gc_W (gc_S d) cX11_tell 11 0 R 7 L (.ref o :: st) μ ↔ gc_W (gc_S d) cX11_tell 11 0 R 10 L (gc_fv o 1 μ :: st) μ := us_getf dX11_tell_7 gf_11_161 hk
theorem u137_10 {d : Nat} {R : gR} {μ : gM} {L : List Value} {st : List Value}   : gc_W (gc_S d) cX11_tell 11 0 R 10 L st μ ↔ gc_W (gc_S d) cX11_tell 11 0 R 12 L (.int 20 :: st) μ := us_bipush dX11_tell_10 ci_bipush_20
theorem u137_12 {d : Nat} {R : gR} {μ : gM} {L : List Value} {st : List Value} {x y : Int32}  : gc_W (gc_S d) cX11_tell 11 0 R 12 L (.int y :: .int x :: st) μ ↔ if x < y then gc_W (gc_S d) cX11_tell 11 0 R 21 L st μ else gc_W (gc_S d) cX11_tell 11 0 R 15 L st μ := us_iclt dX11_tell_12 rfl
theorem u137_15 {d : Nat} {R : gR} {μ : gM} {l1 : Value} {st : List Value} {x : Nat}  : gc_W (gc_S d) cX11_tell 11 0 R 15 [.ref x, l1] st μ ↔ gc_W (gc_S d) cX11_tell 11 0 R 16 [.ref x, l1] (.ref x :: st) μ := us_aload_n dX11_tell_15 rfl
theorem u137_16 {d : Nat} {R : gR} {μ : gM} {L : List Value} {st : List Value}   : gc_W (gc_S d) cX11_tell 11 0 R 16 L st μ ↔ gc_W (gc_S d) cX11_tell 11 0 R 17 L (.int 4 :: st) μ := us_iconst dX11_tell_16 ci_iconst_4
theorem u137_17 {d : Nat} {R : gR} {μ : gM} {L : List Value} {o : Nat} {a0 : Int32} (hk : gc_kd o = 11) : gc_W (gc_S d) cX11_tell 11 0 R 17 L [.int a0, .ref o] μ ↔ gc_S d 75 [.ref o, .int a0] μ (fun v μ' => gc_W (gc_S d) cX11_tell 11 0 R 20 L (v.toList ++ []) μ') := us_virt dX11_tell_17 gn_11_88 gc_11_88_11 hk rfl rfl rfl rfl rfl
theorem u137_20 {d : Nat} {R : gR} {μ : gM} {L : List Value} {v : Int32}  : gc_W (gc_S d) cX11_tell 11 0 R 20 L [.int v] μ ↔ R (some (.int v)) μ := us_iret dX11_tell_20 rfl
theorem u137_21 {d : Nat} {R : gR} {μ : gM} {l1 : Value} {st : List Value} {x : Nat}  : gc_W (gc_S d) cX11_tell 11 0 R 21 [.ref x, l1] st μ ↔ gc_W (gc_S d) cX11_tell 11 0 R 22 [.ref x, l1] (.ref x :: st) μ := us_aload_n dX11_tell_21 rfl
theorem u137_22 {d : Nat} {R : gR} {μ : gM} {L : List Value} {st : List Value} {o : Nat} (hk : gc_kd o = 11) : gc_W (gc_S d) cX11_tell 11 0 R 22 L (.ref o :: st) μ ↔ gc_W (gc_S d) cX11_tell 11 0 R 25 L (gc_fv o 0 μ :: st) μ := us_getf dX11_tell_22 gf_11_38 hk
theorem u137_25 {d : Nat} {R : gR} {μ : gM} {L : List Value} {st : List Value} {o : Nat} (hk : gc_kd o = 0) : gc_W (gc_S d) cX11_tell 11 0 R 25 L (.ref o :: st) μ ↔ gc_W (gc_S d) cX11_tell 11 0 R 28 L (gc_fv o 10 μ :: st) μ := us_getf dX11_tell_25 gf_11_304 hk
theorem u137_28 {d : Nat} {R : gR} {μ : gM} {l0 : Value} {st : List Value} {x : Int32}  : gc_W (gc_S d) cX11_tell 11 0 R 28 [l0, .int x] st μ ↔ gc_W (gc_S d) cX11_tell 11 0 R 29 [l0, .int x] (.int x :: st) μ := us_iload_n dX11_tell_28 rfl
theorem u137_29 {d : Nat} {R : gR} {μ : gM} {L : List Value} {o : Nat} {a0 : Int32} (hk : gc_kd o = 7) : gc_W (gc_S d) cX11_tell 11 0 R 29 L [.int a0, .ref o] μ ↔ gc_S d 41 [.ref o, .int a0] μ (fun v μ' => gc_W (gc_S d) cX11_tell 11 0 R 32 L (v.toList ++ []) μ') := us_virt dX11_tell_29 gn_11_164 gc_11_164_7 hk rfl rfl rfl rfl rfl
theorem u137_32 {d : Nat} {R : gR} {μ : gM} {l1 : Value} {st : List Value} {x : Nat}  : gc_W (gc_S d) cX11_tell 11 0 R 32 [.ref x, l1] st μ ↔ gc_W (gc_S d) cX11_tell 11 0 R 33 [.ref x, l1] (.ref x :: st) μ := us_aload_n dX11_tell_32 rfl
theorem u137_33 {d : Nat} {R : gR} {μ : gM} {L : List Value} {st : List Value} {o : Nat} (hk : gc_kd o = 11) : gc_W (gc_S d) cX11_tell 11 0 R 33 L (.ref o :: st) μ ↔ gc_W (gc_S d) cX11_tell 11 0 R 36 L (gc_fv o 0 μ :: st) μ := us_getf dX11_tell_33 gf_11_38 hk
theorem u137_36 {d : Nat} {R : gR} {μ : gM} {L : List Value} {st : List Value} {o : Nat} (hk : gc_kd o = 0) : gc_W (gc_S d) cX11_tell 11 0 R 36 L (.ref o :: st) μ ↔ gc_W (gc_S d) cX11_tell 11 0 R 39 L (gc_fv o 10 μ :: st) μ := us_getf dX11_tell_36 gf_11_304 hk
theorem u137_39 {d : Nat} {R : gR} {μ : gM} {L : List Value} {st : List Value} {o : Nat} (hk : gc_kd o = 7) : gc_W (gc_S d) cX11_tell 11 0 R 39 L (.ref o :: st) μ ↔ gc_W (gc_S d) cX11_tell 11 0 R 42 L (gc_fv o 1 μ :: st) μ := us_getf dX11_tell_39 gf_11_161 hk
theorem u137_42 {d : Nat} {R : gR} {μ : gM} {L : List Value} {v : Int32}  : gc_W (gc_S d) cX11_tell 11 0 R 42 L [.int v] μ ↔ R (some (.int v)) μ := us_iret dX11_tell_42 rfl
theorem s137 {d : Nat} {R : gR} {μ : gM} {o : Nat} {a0 : Int32} : gc_S (d + 1) 137 [.ref o, .int a0] μ R ↔ gc_W (gc_S d) cX11_tell 11 0 R 0 [.ref o, .int a0] [] μ := us_call (gm_137) rfl rfl
theorem dX11_check_0 : decode cX11_check 0 = .ok (.aload_n 0, 1) := by decide +kernel
theorem dX11_check_1 : decode cX11_check 1 = .ok (.getfield 42, 3) := by decide +kernel
theorem dX11_check_4 : decode cX11_check 4 = .ok (.aload_n 0, 1) := by decide +kernel
theorem dX11_check_5 : decode cX11_check 5 = .ok (.getfield 38, 3) := by decide +kernel
theorem dX11_check_8 : decode cX11_check 8 = .ok (.invokevirtual 307, 3) := by decide +kernel
theorem dX11_check_11 : decode cX11_check 11 = .ok (.aload_n 0, 1) := by decide +kernel
theorem dX11_check_12 : decode cX11_check 12 = .ok (.aload_n 0, 1) := by decide +kernel
theorem dX11_check_13 : decode cX11_check 13 = .ok (.getfield 38, 3) := by decide +kernel
theorem dX11_check_16 : decode cX11_check 16 = .ok (.getfield 304, 3) := by decide +kernel
theorem dX11_check_19 : decode cX11_check 19 = .ok (.invokevirtual 242, 3) := by decide +kernel
theorem dX11_check_22 : decode cX11_check 22 = .ok (.istore_n 1, 1) := by decide +kernel
theorem dX11_check_23 : decode cX11_check 23 = .ok (.aload_n 0, 1) := by decide +kernel
theorem dX11_check_24 : decode cX11_check 24 = .ok (.getfield 38, 3) := by decide +kernel
theorem dX11_check_27 : decode cX11_check 27 = .ok (.getfield 304, 3) := by decide +kernel
theorem dX11_check_30 : decode cX11_check 30 = .ok (.iconst 0, 1) := by decide +kernel
theorem dX11_check_31 : decode cX11_check 31 = .ok (.putfield 161, 3) := by decide +kernel
theorem dX11_check_34 : decode cX11_check 34 = .ok (.iconst 1, 1) := by decide +kernel
theorem dX11_check_35 : decode cX11_check 35 = .ok (.iload_n 1, 1) := by decide +kernel
theorem dX11_check_36 : decode cX11_check 36 = .ok (.iadd, 1) := by decide +kernel
theorem dX11_check_37 : decode cX11_check 37 = .ok (.ireturn, 1) := by decide +kernel
theorem u138_0 {d : Nat} {R : gR} {μ : gM} {l1 : Value} {st : List Value} {x : Nat}  : gc_W (gc_S d) cX11_check 11 0 R 0 [.ref x, l1] st μ ↔ gc_W (gc_S d) cX11_check 11 0 R 1 [.ref x, l1] (.ref x :: st) μ := us_aload_n dX11_check_0 rfl
theorem u138_1 {d : Nat} {R : gR} {μ : gM} {L : List Value} {st : List Value} {o : Nat} (hk : gc_kd o = 11) : gc_W (gc_S d) cX11_check 11 0 R 1 L (.ref o :: st) μ ↔ gc_W (gc_S d) cX11_check 11 0 R 4 L (gc_fv o 1 μ :: st) μ := us_getf dX11_check_1 gf_11_42 hk
theorem u138_4 {d : Nat} {R : gR} {μ : gM} {l1 : Value} {st : List Value} {x : Nat}  : gc_W (gc_S d) cX11_check 11 0 R 4 [.ref x, l1] st μ ↔ gc_W (gc_S d) cX11_check 11 0 R 5 [.ref x, l1] (.ref x :: st) μ := us_aload_n dX11_check_4 rfl
theorem u138_5 {d : Nat} {R : gR} {μ : gM} {L : List Value} {st : List Value} {o : Nat} (hk : gc_kd o = 11) : gc_W (gc_S d) cX11_check 11 0 R 5 L (.ref o :: st) μ ↔ gc_W (gc_S d) cX11_check 11 0 R 8 L (gc_fv o 0 μ :: st) μ := us_getf dX11_check_5 gf_11_38 hk
theorem u138_8 {d : Nat} {R : gR} {μ : gM} {L : List Value} {o : Nat} {a0 : Nat} (hk : gc_kd o = 0) : gc_W (gc_S d) cX11_check 11 0 R 8 L [.ref a0, .ref o] μ ↔ gc_S d 0 [.ref o, .ref a0] μ (fun v μ' => gc_W (gc_S d) cX11_check 11 0 R 11 L (v.toList ++ []) μ') := us_virt dX11_check_8 gn_11_307 gc_11_307_0 hk rfl rfl rfl rfl rfl
theorem u138_11 {d : Nat} {R : gR} {μ : gM} {l1 : Value} {st : List Value} {x : Nat}  : gc_W (gc_S d) cX11_check 11 0 R 11 [.ref x, l1] st μ ↔ gc_W (gc_S d) cX11_check 11 0 R 12 [.ref x, l1] (.ref x :: st) μ := us_aload_n dX11_check_11 rfl
theorem u138_12 {d : Nat} {R : gR} {μ : gM} {l1 : Value} {st : List Value} {x : Nat}  : gc_W (gc_S d) cX11_check 11 0 R 12 [.ref x, l1] st μ ↔ gc_W (gc_S d) cX11_check 11 0 R 13 [.ref x, l1] (.ref x :: st) μ := us_aload_n dX11_check_12 rfl
theorem u138_13 {d : Nat} {R : gR} {μ : gM} {L : List Value} {st : List Value} {o : Nat} (hk : gc_kd o = 11) : gc_W (gc_S d) cX11_check 11 0 R 13 L (.ref o :: st) μ ↔ gc_W (gc_S d) cX11_check 11 0 R 16 L (gc_fv o 0 μ :: st) μ := us_getf dX11_check_13 gf_11_38 hk
theorem u138_16 {d : Nat} {R : gR} {μ : gM} {L : List Value} {st : List Value} {o : Nat} (hk : gc_kd o = 0) : gc_W (gc_S d) cX11_check 11 0 R 16 L (.ref o :: st) μ ↔ gc_W (gc_S d) cX11_check 11 0 R 19 L (gc_fv o 10 μ :: st) μ := us_getf dX11_check_16 gf_11_304 hk
theorem u138_19 {d : Nat} {R : gR} {μ : gM} {L : List Value} {o : Nat} {a0 : Nat} (hk : gc_kd o = 11) : gc_W (gc_S d) cX11_check 11 0 R 19 L [.ref a0, .ref o] μ ↔ gc_S d 122 [.ref o, .ref a0] μ (fun v μ' => gc_W (gc_S d) cX11_check 11 0 R 22 L (v.toList ++ []) μ') := us_virt dX11_check_19 gn_11_242 gc_11_242_11 hk rfl rfl rfl rfl rfl
theorem u138_22 {d : Nat} {R : gR} {μ : gM} {l0 l1 : Value} {st : List Value} {x : Int32} (hs : gc_sk l1 = true) : gc_W (gc_S d) cX11_check 11 0 R 22 [l0, l1] (.int x :: st) μ ↔ gc_W (gc_S d) cX11_check 11 0 R 23 [l0, .int x] st μ := us_istore_n dX11_check_22 rfl hs
theorem u138_23 {d : Nat} {R : gR} {μ : gM} {l1 : Value} {st : List Value} {x : Nat}  : gc_W (gc_S d) cX11_check 11 0 R 23 [.ref x, l1] st μ ↔ gc_W (gc_S d) cX11_check 11 0 R 24 [.ref x, l1] (.ref x :: st) μ := us_aload_n dX11_check_23 rfl
theorem u138_24 {d : Nat} {R : gR} {μ : gM} {L : List Value} {st : List Value} {o : Nat} (hk : gc_kd o = 11) : gc_W (gc_S d) cX11_check 11 0 R 24 L (.ref o :: st) μ ↔ gc_W (gc_S d) cX11_check 11 0 R 27 L (gc_fv o 0 μ :: st) μ := us_getf dX11_check_24 gf_11_38 hk
theorem u138_27 {d : Nat} {R : gR} {μ : gM} {L : List Value} {st : List Value} {o : Nat} (hk : gc_kd o = 0) : gc_W (gc_S d) cX11_check 11 0 R 27 L (.ref o :: st) μ ↔ gc_W (gc_S d) cX11_check 11 0 R 30 L (gc_fv o 10 μ :: st) μ := us_getf dX11_check_27 gf_11_304 hk
theorem u138_30 {d : Nat} {R : gR} {μ : gM} {L : List Value} {st : List Value}   : gc_W (gc_S d) cX11_check 11 0 R 30 L st μ ↔ gc_W (gc_S d) cX11_check 11 0 R 31 L (.int 0 :: st) μ := us_iconst dX11_check_30 ci_iconst_0
theorem u138_31 {d : Nat} {R : gR} {μ : gM} {L : List Value} {st : List Value} {o : Nat} {x : Int32} (hk : gc_kd o = 7) (hj : gc_fk o 1 = 0) : gc_W (gc_S d) cX11_check 11 0 R 31 L (.int x :: .ref o :: st) μ ↔ gc_W (gc_S d) cX11_check 11 0 R 34 L st (gc_up μ o 1 x) := us_putf dX11_check_31 gf_11_161 hk hj rfl
theorem u138_34 {d : Nat} {R : gR} {μ : gM} {L : List Value} {st : List Value}   : gc_W (gc_S d) cX11_check 11 0 R 34 L st μ ↔ gc_W (gc_S d) cX11_check 11 0 R 35 L (.int 1 :: st) μ := us_iconst dX11_check_34 ci_iconst_1
theorem u138_35 {d : Nat} {R : gR} {μ : gM} {l0 : Value} {st : List Value} {x : Int32}  : gc_W (gc_S d) cX11_check 11 0 R 35 [l0, .int x] st μ ↔ gc_W (gc_S d) cX11_check 11 0 R 36 [l0, .int x] (.int x :: st) μ := us_iload_n dX11_check_35 rfl
theorem u138_36 {d : Nat} {R : gR} {μ : gM} {L : List Value} {st : List Value} {x y : Int32}  : gc_W (gc_S d) cX11_check 11 0 R 36 L (.int y :: .int x :: st) μ ↔ gc_W (gc_S d) cX11_check 11 0 R 37 L (.int (x + y) :: st) μ := us_iadd dX11_check_36
theorem u138_37 {d : Nat} {R : gR} {μ : gM} {L : List Value} {v : Int32}  : gc_W (gc_S d) cX11_check 11 0 R 37 L [.int v] μ ↔ R (some (.int v)) μ := us_iret dX11_check_37 rfl
theorem s138 {d : Nat} {R : gR} {μ : gM} {o : Nat} : gc_S (d + 1) 138 [.ref o] μ R ↔ gc_W (gc_S d) cX11_check 11 0 R 0 [.ref o, .retAddr 0] [] μ := us_call (gm_138) rfl rfl
theorem dX11_count_0 : decode cX11_count 0 = .ok (.iload_n 1, 1) := by decide +kernel
theorem dX11_count_1 : decode cX11_count 1 = .ok (.tableswitch 162 0 10 #[59, 67, 75, 83, 94, 102, 110, 121, 132, 143, 154], 59) := by decide +kernel
theorem dX11_count_60 : decode cX11_count 60 = .ok (.aload_n 0, 1) := by decide +kernel
theorem dX11_count_61 : decode cX11_count 61 = .ok (.getfield 38, 3) := by decide +kernel
theorem dX11_count_64 : decode cX11_count 64 = .ok (.getfield 120, 3) := by decide +kernel
theorem dX11_count_67 : decode cX11_count 67 = .ok (.ireturn, 1) := by decide +kernel
theorem dX11_count_68 : decode cX11_count 68 = .ok (.aload_n 0, 1) := by decide +kernel
theorem dX11_count_69 : decode cX11_count 69 = .ok (.getfield 38, 3) := by decide +kernel
theorem dX11_count_72 : decode cX11_count 72 = .ok (.getfield 149, 3) := by decide +kernel
theorem dX11_count_75 : decode cX11_count 75 = .ok (.ireturn, 1) := by decide +kernel
theorem dX11_count_76 : decode cX11_count 76 = .ok (.aload_n 0, 1) := by decide +kernel
theorem dX11_count_77 : decode cX11_count 77 = .ok (.getfield 38, 3) := by decide +kernel
theorem dX11_count_80 : decode cX11_count 80 = .ok (.invokevirtual 192, 3) := by decide +kernel
theorem dX11_count_83 : decode cX11_count 83 = .ok (.ireturn, 1) := by decide +kernel
theorem dX11_count_84 : decode cX11_count 84 = .ok (.aload_n 0, 1) := by decide +kernel
theorem dX11_count_85 : decode cX11_count 85 = .ok (.getfield 38, 3) := by decide +kernel
theorem dX11_count_88 : decode cX11_count 88 = .ok (.invokevirtual 204, 3) := by decide +kernel
theorem dX11_count_91 : decode cX11_count 91 = .ok (.invokestatic 109, 3) := by decide +kernel
theorem dX11_count_94 : decode cX11_count 94 = .ok (.ireturn, 1) := by decide +kernel
theorem dX11_count_95 : decode cX11_count 95 = .ok (.aload_n 0, 1) := by decide +kernel
theorem dX11_count_96 : decode cX11_count 96 = .ok (.getfield 38, 3) := by decide +kernel
theorem dX11_count_99 : decode cX11_count 99 = .ok (.getfield 95, 3) := by decide +kernel
theorem dX11_count_102 : decode cX11_count 102 = .ok (.ireturn, 1) := by decide +kernel
theorem dX11_count_103 : decode cX11_count 103 = .ok (.aload_n 0, 1) := by decide +kernel
theorem dX11_count_104 : decode cX11_count 104 = .ok (.getfield 38, 3) := by decide +kernel
theorem dX11_count_107 : decode cX11_count 107 = .ok (.invokevirtual 201, 3) := by decide +kernel
theorem dX11_count_110 : decode cX11_count 110 = .ok (.ireturn, 1) := by decide +kernel
theorem dX11_count_111 : decode cX11_count 111 = .ok (.aload_n 0, 1) := by decide +kernel
theorem dX11_count_112 : decode cX11_count 112 = .ok (.getfield 38, 3) := by decide +kernel
theorem dX11_count_115 : decode cX11_count 115 = .ok (.invokevirtual 220, 3) := by decide +kernel
theorem dX11_count_118 : decode cX11_count 118 = .ok (.invokestatic 223, 3) := by decide +kernel
theorem dX11_count_121 : decode cX11_count 121 = .ok (.ireturn, 1) := by decide +kernel
theorem dX11_count_122 : decode cX11_count 122 = .ok (.aload_n 0, 1) := by decide +kernel
theorem dX11_count_123 : decode cX11_count 123 = .ok (.getfield 38, 3) := by decide +kernel
theorem dX11_count_126 : decode cX11_count 126 = .ok (.getfield 158, 3) := by decide +kernel
theorem dX11_count_129 : decode cX11_count 129 = .ok (.getfield 161, 3) := by decide +kernel
theorem dX11_count_132 : decode cX11_count 132 = .ok (.ireturn, 1) := by decide +kernel
theorem dX11_count_133 : decode cX11_count 133 = .ok (.aload_n 0, 1) := by decide +kernel
theorem dX11_count_134 : decode cX11_count 134 = .ok (.getfield 38, 3) := by decide +kernel
theorem dX11_count_137 : decode cX11_count 137 = .ok (.getfield 304, 3) := by decide +kernel
theorem dX11_count_140 : decode cX11_count 140 = .ok (.getfield 161, 3) := by decide +kernel
theorem dX11_count_143 : decode cX11_count 143 = .ok (.ireturn, 1) := by decide +kernel
theorem dX11_count_144 : decode cX11_count 144 = .ok (.aload_n 0, 1) := by decide +kernel
theorem dX11_count_145 : decode cX11_count 145 = .ok (.getfield 64, 3) := by decide +kernel
theorem dX11_count_148 : decode cX11_count 148 = .ok (.getfield 254, 3) := by decide +kernel
theorem dX11_count_151 : decode cX11_count 151 = .ok (.getfield 161, 3) := by decide +kernel
theorem dX11_count_154 : decode cX11_count 154 = .ok (.ireturn, 1) := by decide +kernel
theorem dX11_count_155 : decode cX11_count 155 = .ok (.aload_n 0, 1) := by decide +kernel
theorem dX11_count_156 : decode cX11_count 156 = .ok (.getfield 38, 3) := by decide +kernel
theorem dX11_count_159 : decode cX11_count 159 = .ok (.getfield 246, 3) := by decide +kernel
theorem dX11_count_162 : decode cX11_count 162 = .ok (.ireturn, 1) := by decide +kernel
theorem dX11_count_163 : decode cX11_count 163 = .ok (.aload_n 0, 1) := by decide +kernel
theorem dX11_count_164 : decode cX11_count 164 = .ok (.iconst 1, 1) := by decide +kernel
theorem dX11_count_165 : decode cX11_count 165 = .ok (.invokevirtual 88, 3) := by decide +kernel
theorem dX11_count_168 : decode cX11_count 168 = .ok (.ireturn, 1) := by decide +kernel
theorem u139_0 {d : Nat} {R : gR} {μ : gM} {l0 : Value} {st : List Value} {x : Int32}  : gc_W (gc_S d) cX11_count 11 0 R 0 [l0, .int x] st μ ↔ gc_W (gc_S d) cX11_count 11 0 R 1 [l0, .int x] (.int x :: st) μ := us_iload_n dX11_count_0 rfl
theorem u139_1 {d : Nat} {R : gR} {μ : gM} {L : List Value} {st : List Value} {x : Int32}  : gc_W (gc_S d) cX11_count 11 0 R 1 L (.int x :: st) μ ↔ if x = 0 then gc_W (gc_S d) cX11_count 11 0 R 60 L st μ else (if x = 1 then gc_W (gc_S d) cX11_count 11 0 R 68 L st μ else (if x = 2 then gc_W (gc_S d) cX11_count 11 0 R 76 L st μ else (if x = 3 then gc_W (gc_S d) cX11_count 11 0 R 84 L st μ else (if x = 4 then gc_W (gc_S d) cX11_count 11 0 R 95 L st μ else (if x = 5 then gc_W (gc_S d) cX11_count 11 0 R 103 L st μ else (if x = 6 then gc_W (gc_S d) cX11_count 11 0 R 111 L st μ else (if x = 7 then gc_W (gc_S d) cX11_count 11 0 R 122 L st μ else (if x = 8 then gc_W (gc_S d) cX11_count 11 0 R 133 L st μ else (if x = 9 then gc_W (gc_S d) cX11_count 11 0 R 144 L st μ else (if x = 10 then gc_W (gc_S d) cX11_count 11 0 R 155 L st μ else (gc_W (gc_S d) cX11_count 11 0 R 163 L st μ))))))))))) := us_tsw [(0, 60), (1, 68), (2, 76), (3, 84), (4, 95), (5, 103), (6, 111), (7, 122), (8, 133), (9, 144), (10, 155)] dX11_count_1 rfl (by decide) (by decide +kernel) (dt := 163) rfl
theorem u139_60 {d : Nat} {R : gR} {μ : gM} {l1 : Value} {st : List Value} {x : Nat}  : gc_W (gc_S d) cX11_count 11 0 R 60 [.ref x, l1] st μ ↔ gc_W (gc_S d) cX11_count 11 0 R 61 [.ref x, l1] (.ref x :: st) μ := us_aload_n dX11_count_60 rfl
theorem u139_61 {d : Nat} {R : gR} {μ : gM} {L : List Value} {st : List Value} {o : Nat} (hk : gc_kd o = 11) : gc_W (gc_S d) cX11_count 11 0 R 61 L (.ref o :: st) μ ↔ gc_W (gc_S d) cX11_count 11 0 R 64 L (gc_fv o 0 μ :: st) μ := us_getf dX11_count_61 gf_11_38 hk
theorem u139_64 {d : Nat} {R : gR} {μ : gM} {L : List Value} {st : List Value} {o : Nat} (hk : gc_kd o = 0) : gc_W (gc_S d) cX11_count 11 0 R 64 L (.ref o :: st) μ ↔ gc_W (gc_S d) cX11_count 11 0 R 67 L (gc_fv o 13 μ :: st) μ := us_getf dX11_count_64 gf_11_120 hk
theorem u139_67 {d : Nat} {R : gR} {μ : gM} {L : List Value} {v : Int32}  : gc_W (gc_S d) cX11_count 11 0 R 67 L [.int v] μ ↔ R (some (.int v)) μ := us_iret dX11_count_67 rfl
theorem u139_68 {d : Nat} {R : gR} {μ : gM} {l1 : Value} {st : List Value} {x : Nat}  : gc_W (gc_S d) cX11_count 11 0 R 68 [.ref x, l1] st μ ↔ gc_W (gc_S d) cX11_count 11 0 R 69 [.ref x, l1] (.ref x :: st) μ := us_aload_n dX11_count_68 rfl
theorem u139_69 {d : Nat} {R : gR} {μ : gM} {L : List Value} {st : List Value} {o : Nat} (hk : gc_kd o = 11) : gc_W (gc_S d) cX11_count 11 0 R 69 L (.ref o :: st) μ ↔ gc_W (gc_S d) cX11_count 11 0 R 72 L (gc_fv o 0 μ :: st) μ := us_getf dX11_count_69 gf_11_38 hk
theorem u139_72 {d : Nat} {R : gR} {μ : gM} {L : List Value} {st : List Value} {o : Nat} (hk : gc_kd o = 0) : gc_W (gc_S d) cX11_count 11 0 R 72 L (.ref o :: st) μ ↔ gc_W (gc_S d) cX11_count 11 0 R 75 L (gc_fv o 12 μ :: st) μ := us_getf dX11_count_72 gf_11_149 hk
theorem u139_75 {d : Nat} {R : gR} {μ : gM} {L : List Value} {v : Int32}  : gc_W (gc_S d) cX11_count 11 0 R 75 L [.int v] μ ↔ R (some (.int v)) μ := us_iret dX11_count_75 rfl
theorem u139_76 {d : Nat} {R : gR} {μ : gM} {l1 : Value} {st : List Value} {x : Nat}  : gc_W (gc_S d) cX11_count 11 0 R 76 [.ref x, l1] st μ ↔ gc_W (gc_S d) cX11_count 11 0 R 77 [.ref x, l1] (.ref x :: st) μ := us_aload_n dX11_count_76 rfl
theorem u139_77 {d : Nat} {R : gR} {μ : gM} {L : List Value} {st : List Value} {o : Nat} (hk : gc_kd o = 11) : gc_W (gc_S d) cX11_count 11 0 R 77 L (.ref o :: st) μ ↔ gc_W (gc_S d) cX11_count 11 0 R 80 L (gc_fv o 0 μ :: st) μ := us_getf dX11_count_77 gf_11_38 hk
theorem u139_80 {d : Nat} {R : gR} {μ : gM} {L : List Value} {o : Nat} (hk : gc_kd o = 0) : gc_W (gc_S d) cX11_count 11 0 R 80 L [.ref o] μ ↔ gc_S d 8 [.ref o] μ (fun v μ' => gc_W (gc_S d) cX11_count 11 0 R 83 L (v.toList ++ []) μ') := us_virt dX11_count_80 gn_11_192 gc_11_192_0 hk rfl rfl rfl rfl rfl
theorem u139_83 {d : Nat} {R : gR} {μ : gM} {L : List Value} {v : Int32}  : gc_W (gc_S d) cX11_count 11 0 R 83 L [.int v] μ ↔ R (some (.int v)) μ := us_iret dX11_count_83 rfl
theorem u139_84 {d : Nat} {R : gR} {μ : gM} {l1 : Value} {st : List Value} {x : Nat}  : gc_W (gc_S d) cX11_count 11 0 R 84 [.ref x, l1] st μ ↔ gc_W (gc_S d) cX11_count 11 0 R 85 [.ref x, l1] (.ref x :: st) μ := us_aload_n dX11_count_84 rfl
theorem u139_85 {d : Nat} {R : gR} {μ : gM} {L : List Value} {st : List Value} {o : Nat} (hk : gc_kd o = 11) : gc_W (gc_S d) cX11_count 11 0 R 85 L (.ref o :: st) μ ↔ gc_W (gc_S d) cX11_count 11 0 R 88 L (gc_fv o 0 μ :: st) μ := us_getf dX11_count_85 gf_11_38 hk
theorem u139_88 {d : Nat} {R : gR} {μ : gM} {L : List Value} {o : Nat} (hk : gc_kd o = 0) : gc_W (gc_S d) cX11_count 11 0 R 88 L [.ref o] μ ↔ gc_S d 5 [.ref o] μ (fun v μ' => gc_W (gc_S d) cX11_count 11 0 R 91 L (v.toList ++ []) μ') := us_virt dX11_count_88 gn_11_204 gc_11_204_0 hk rfl rfl rfl rfl rfl
theorem u139_91 {d : Nat} {R : gR} {μ : gM} {L : List Value}  {a0 : Int32}  : gc_W (gc_S d) cX11_count 11 0 R 91 L [.int a0] μ ↔ gc_S d 30 [.int a0] μ (fun v μ' => gc_W (gc_S d) cX11_count 11 0 R 94 L (v.toList ++ []) μ') := us_stat dX11_count_91 gs_11_109 gne_11_109 gn_11_109 gc_11_109_97 rfl rfl rfl rfl
theorem u139_94 {d : Nat} {R : gR} {μ : gM} {L : List Value} {v : Int32}  : gc_W (gc_S d) cX11_count 11 0 R 94 L [.int v] μ ↔ R (some (.int v)) μ := us_iret dX11_count_94 rfl
theorem u139_95 {d : Nat} {R : gR} {μ : gM} {l1 : Value} {st : List Value} {x : Nat}  : gc_W (gc_S d) cX11_count 11 0 R 95 [.ref x, l1] st μ ↔ gc_W (gc_S d) cX11_count 11 0 R 96 [.ref x, l1] (.ref x :: st) μ := us_aload_n dX11_count_95 rfl
theorem u139_96 {d : Nat} {R : gR} {μ : gM} {L : List Value} {st : List Value} {o : Nat} (hk : gc_kd o = 11) : gc_W (gc_S d) cX11_count 11 0 R 96 L (.ref o :: st) μ ↔ gc_W (gc_S d) cX11_count 11 0 R 99 L (gc_fv o 0 μ :: st) μ := us_getf dX11_count_96 gf_11_38 hk
theorem u139_99 {d : Nat} {R : gR} {μ : gM} {L : List Value} {st : List Value} {o : Nat} (hk : gc_kd o = 0) : gc_W (gc_S d) cX11_count 11 0 R 99 L (.ref o :: st) μ ↔ gc_W (gc_S d) cX11_count 11 0 R 102 L (gc_fv o 11 μ :: st) μ := us_getf dX11_count_99 gf_11_95 hk
theorem u139_102 {d : Nat} {R : gR} {μ : gM} {L : List Value} {v : Int32}  : gc_W (gc_S d) cX11_count 11 0 R 102 L [.int v] μ ↔ R (some (.int v)) μ := us_iret dX11_count_102 rfl
theorem u139_103 {d : Nat} {R : gR} {μ : gM} {l1 : Value} {st : List Value} {x : Nat}  : gc_W (gc_S d) cX11_count 11 0 R 103 [.ref x, l1] st μ ↔ gc_W (gc_S d) cX11_count 11 0 R 104 [.ref x, l1] (.ref x :: st) μ := us_aload_n dX11_count_103 rfl
theorem u139_104 {d : Nat} {R : gR} {μ : gM} {L : List Value} {st : List Value} {o : Nat} (hk : gc_kd o = 11) : gc_W (gc_S d) cX11_count 11 0 R 104 L (.ref o :: st) μ ↔ gc_W (gc_S d) cX11_count 11 0 R 107 L (gc_fv o 0 μ :: st) μ := us_getf dX11_count_104 gf_11_38 hk
theorem u139_107 {d : Nat} {R : gR} {μ : gM} {L : List Value} {o : Nat} (hk : gc_kd o = 0) : gc_W (gc_S d) cX11_count 11 0 R 107 L [.ref o] μ ↔ gc_S d 9 [.ref o] μ (fun v μ' => gc_W (gc_S d) cX11_count 11 0 R 110 L (v.toList ++ []) μ') := us_virt dX11_count_107 gn_11_201 gc_11_201_0 hk rfl rfl rfl rfl rfl
theorem u139_110 {d : Nat} {R : gR} {μ : gM} {L : List Value} {v : Int32}  : gc_W (gc_S d) cX11_count 11 0 R 110 L [.int v] μ ↔ R (some (.int v)) μ := us_iret dX11_count_110 rfl
theorem u139_111 {d : Nat} {R : gR} {μ : gM} {l1 : Value} {st : List Value} {x : Nat}  : gc_W (gc_S d) cX11_count 11 0 R 111 [.ref x, l1] st μ ↔ gc_W (gc_S d) cX11_count 11 0 R 112 [.ref x, l1] (.ref x :: st) μ := us_aload_n dX11_count_111 rfl
theorem u139_112 {d : Nat} {R : gR} {μ : gM} {L : List Value} {st : List Value} {o : Nat} (hk : gc_kd o = 11) : gc_W (gc_S d) cX11_count 11 0 R 112 L (.ref o :: st) μ ↔ gc_W (gc_S d) cX11_count 11 0 R 115 L (gc_fv o 0 μ :: st) μ := us_getf dX11_count_112 gf_11_38 hk
theorem u139_115 {d : Nat} {R : gR} {μ : gM} {L : List Value} {o : Nat} (hk : gc_kd o = 0) : gc_W (gc_S d) cX11_count 11 0 R 115 L [.ref o] μ ↔ gc_S d 4 [.ref o] μ (fun v μ' => gc_W (gc_S d) cX11_count 11 0 R 118 L (v.toList ++ []) μ') := us_virt dX11_count_115 gn_11_220 gc_11_220_0 hk rfl rfl rfl rfl rfl
theorem u139_118 {d : Nat} {R : gR} {μ : gM} {L : List Value}  {a0 : Int32}  : gc_W (gc_S d) cX11_count 11 0 R 118 L [.int a0] μ ↔ gc_S d 111 [.int a0] μ (fun v μ' => gc_W (gc_S d) cX11_count 11 0 R 121 L (v.toList ++ []) μ') := us_stat dX11_count_118 gs_11_223 gne_11_223 gn_11_223 gc_11_223_97 rfl rfl rfl rfl
theorem u139_121 {d : Nat} {R : gR} {μ : gM} {L : List Value} {v : Int32}  : gc_W (gc_S d) cX11_count 11 0 R 121 L [.int v] μ ↔ R (some (.int v)) μ := us_iret dX11_count_121 rfl
theorem u139_122 {d : Nat} {R : gR} {μ : gM} {l1 : Value} {st : List Value} {x : Nat}  : gc_W (gc_S d) cX11_count 11 0 R 122 [.ref x, l1] st μ ↔ gc_W (gc_S d) cX11_count 11 0 R 123 [.ref x, l1] (.ref x :: st) μ := us_aload_n dX11_count_122 rfl
theorem u139_123 {d : Nat} {R : gR} {μ : gM} {L : List Value} {st : List Value} {o : Nat} (hk : gc_kd o = 11) : gc_W (gc_S d) cX11_count 11 0 R 123 L (.ref o :: st) μ ↔ gc_W (gc_S d) cX11_count 11 0 R 126 L (gc_fv o 0 μ :: st) μ := us_getf dX11_count_123 gf_11_38 hk
theorem u139_126 {d : Nat} {R : gR} {μ : gM} {L : List Value} {st : List Value} {o : Nat} (hk : gc_kd o = 0) : gc_W (gc_S d) cX11_count 11 0 R 126 L (.ref o :: st) μ ↔ gc_W (gc_S d) cX11_count 11 0 R 129 L (gc_fv o 9 μ :: st) μ := us_getf dX11_count_126 gf_11_158 hk
theorem u139_129 {d : Nat} {R : gR} {μ : gM} {L : List Value} {st : List Value} {o : Nat} (hk : gc_kd o = 7) : gc_W (gc_S d) cX11_count 11 0 R 129 L (.ref o :: st) μ ↔ gc_W (gc_S d) cX11_count 11 0 R 132 L (gc_fv o 1 μ :: st) μ := us_getf dX11_count_129 gf_11_161 hk
theorem u139_132 {d : Nat} {R : gR} {μ : gM} {L : List Value} {v : Int32}  : gc_W (gc_S d) cX11_count 11 0 R 132 L [.int v] μ ↔ R (some (.int v)) μ := us_iret dX11_count_132 rfl
theorem u139_133 {d : Nat} {R : gR} {μ : gM} {l1 : Value} {st : List Value} {x : Nat}  : gc_W (gc_S d) cX11_count 11 0 R 133 [.ref x, l1] st μ ↔ gc_W (gc_S d) cX11_count 11 0 R 134 [.ref x, l1] (.ref x :: st) μ := us_aload_n dX11_count_133 rfl
theorem u139_134 {d : Nat} {R : gR} {μ : gM} {L : List Value} {st : List Value} {o : Nat} (hk : gc_kd o = 11) : gc_W (gc_S d) cX11_count 11 0 R 134 L (.ref o :: st) μ ↔ gc_W (gc_S d) cX11_count 11 0 R 137 L (gc_fv o 0 μ :: st) μ := us_getf dX11_count_134 gf_11_38 hk
theorem u139_137 {d : Nat} {R : gR} {μ : gM} {L : List Value} {st : List Value} {o : Nat} (hk : gc_kd o = 0) : gc_W (gc_S d) cX11_count 11 0 R 137 L (.ref o :: st) μ ↔ gc_W (gc_S d) cX11_count 11 0 R 140 L (gc_fv o 10 μ :: st) μ := us_getf dX11_count_137 gf_11_304 hk
theorem u139_140 {d : Nat} {R : gR} {μ : gM} {L : List Value} {st : List Value} {o : Nat} (hk : gc_kd o = 7) : gc_W (gc_S d) cX11_count 11 0 R 140 L (.ref o :: st) μ ↔ gc_W (gc_S d) cX11_count 11 0 R 143 L (gc_fv o 1 μ :: st) μ := us_getf dX11_count_140 gf_11_161 hk
theorem u139_143 {d : Nat} {R : gR} {μ : gM} {L : List Value} {v : Int32}  : gc_W (gc_S d) cX11_count 11 0 R 143 L [.int v] μ ↔ R (some (.int v)) μ := us_iret dX11_count_143 rfl
theorem u139_144 {d : Nat} {R : gR} {μ : gM} {l1 : Value} {st : List Value} {x : Nat}  : gc_W (gc_S d) cX11_count 11 0 R 144 [.ref x, l1] st μ ↔ gc_W (gc_S d) cX11_count 11 0 R 145 [.ref x, l1] (.ref x :: st) μ := us_aload_n dX11_count_144 rfl
theorem u139_145 {d : Nat} {R : gR} {μ : gM} {L : List Value} {st : List Value} {o : Nat} (hk : gc_kd o = 11) : gc_W (gc_S d) cX11_count 11 0 R 145 L (.ref o :: st) μ ↔ gc_W (gc_S d) cX11_count 11 0 R 148 L (gc_fv o 5 μ :: st) μ := us_getf dX11_count_145 gf_11_64 hk
theorem u139_148 {d : Nat} {R : gR} {μ : gM} {L : List Value} {st : List Value} {o : Nat} (hk : gc_kd o = 9) : gc_W (gc_S d) cX11_count 11 0 R 148 L (.ref o :: st) μ ↔ gc_W (gc_S d) cX11_count 11 0 R 151 L (gc_fv o 0 μ :: st) μ := us_getf dX11_count_148 gf_11_254 hk
theorem u139_151 {d : Nat} {R : gR} {μ : gM} {L : List Value} {st : List Value} {o : Nat} (hk : gc_kd o = 7) : gc_W (gc_S d) cX11_count 11 0 R 151 L (.ref o :: st) μ ↔ gc_W (gc_S d) cX11_count 11 0 R 154 L (gc_fv o 1 μ :: st) μ := us_getf dX11_count_151 gf_11_161 hk
theorem u139_154 {d : Nat} {R : gR} {μ : gM} {L : List Value} {v : Int32}  : gc_W (gc_S d) cX11_count 11 0 R 154 L [.int v] μ ↔ R (some (.int v)) μ := us_iret dX11_count_154 rfl
theorem u139_155 {d : Nat} {R : gR} {μ : gM} {l1 : Value} {st : List Value} {x : Nat}  : gc_W (gc_S d) cX11_count 11 0 R 155 [.ref x, l1] st μ ↔ gc_W (gc_S d) cX11_count 11 0 R 156 [.ref x, l1] (.ref x :: st) μ := us_aload_n dX11_count_155 rfl
theorem u139_156 {d : Nat} {R : gR} {μ : gM} {L : List Value} {st : List Value} {o : Nat} (hk : gc_kd o = 11) : gc_W (gc_S d) cX11_count 11 0 R 156 L (.ref o :: st) μ ↔ gc_W (gc_S d) cX11_count 11 0 R 159 L (gc_fv o 0 μ :: st) μ := us_getf dX11_count_156 gf_11_38 hk
theorem u139_159 {d : Nat} {R : gR} {μ : gM} {L : List Value} {st : List Value} {o : Nat} (hk : gc_kd o = 0) : gc_W (gc_S d) cX11_count 11 0 R 159 L (.ref o :: st) μ ↔ gc_W (gc_S d) cX11_count 11 0 R 162 L (gc_fv o 14 μ :: st) μ := us_getf dX11_count_159 gf_11_246 hk
theorem u139_162 {d : Nat} {R : gR} {μ : gM} {L : List Value} {v : Int32}  : gc_W (gc_S d) cX11_count 11 0 R 162 L [.int v] μ ↔ R (some (.int v)) μ := us_iret dX11_count_162 rfl
theorem u139_163 {d : Nat} {R : gR} {μ : gM} {l1 : Value} {st : List Value} {x : Nat}  : gc_W (gc_S d) cX11_count 11 0 R 163 [.ref x, l1] st μ ↔ gc_W (gc_S d) cX11_count 11 0 R 164 [.ref x, l1] (.ref x :: st) μ := us_aload_n dX11_count_163 rfl
theorem u139_164 {d : Nat} {R : gR} {μ : gM} {L : List Value} {st : List Value}   : gc_W (gc_S d) cX11_count 11 0 R 164 L st μ ↔ gc_W (gc_S d) cX11_count 11 0 R 165 L (.int 1 :: st) μ := us_iconst dX11_count_164 ci_iconst_1
theorem u139_165 {d : Nat} {R : gR} {μ : gM} {L : List Value} {o : Nat} {a0 : Int32} (hk : gc_kd o = 11) : gc_W (gc_S d) cX11_count 11 0 R 165 L [.int a0, .ref o] μ ↔ gc_S d 75 [.ref o, .int a0] μ (fun v μ' => gc_W (gc_S d) cX11_count 11 0 R 168 L (v.toList ++ []) μ') := us_virt dX11_count_165 gn_11_88 gc_11_88_11 hk rfl rfl rfl rfl rfl
theorem u139_168 {d : Nat} {R : gR} {μ : gM} {L : List Value} {v : Int32}  : gc_W (gc_S d) cX11_count 11 0 R 168 L [.int v] μ ↔ R (some (.int v)) μ := us_iret dX11_count_168 rfl
theorem s139 {d : Nat} {R : gR} {μ : gM} {o : Nat} {a0 : Int32} : gc_S (d + 1) 139 [.ref o, .int a0] μ R ↔ gc_W (gc_S d) cX11_count 11 0 R 0 [.ref o, .int a0] [] μ := us_call (gm_139) rfl rfl
theorem dX11_told_0 : decode cX11_told 0 = .ok (.iload_n 1, 1) := by decide +kernel
theorem dX11_told_1 : decode cX11_told 1 = .ok (.iconst 1, 1) := by decide +kernel
theorem dX11_told_2 : decode cX11_told 2 = .ok (.if_icmp .lt 17, 3) := by decide +kernel
theorem dX11_told_5 : decode cX11_told 5 = .ok (.iload_n 1, 1) := by decide +kernel
theorem dX11_told_6 : decode cX11_told 6 = .ok (.iconst 5, 1) := by decide +kernel
theorem dX11_told_7 : decode cX11_told 7 = .ok (.if_icmp .gt 12, 3) := by decide +kernel
theorem dX11_told_10 : decode cX11_told 10 = .ok (.aload_n 0, 1) := by decide +kernel
theorem dX11_told_11 : decode cX11_told 11 = .ok (.getfield 68, 3) := by decide +kernel
theorem dX11_told_14 : decode cX11_told 14 = .ok (.iload_n 1, 1) := by decide +kernel
theorem dX11_told_15 : decode cX11_told 15 = .ok (.iaload, 1) := by decide +kernel
theorem dX11_told_16 : decode cX11_told 16 = .ok (.goto 8, 3) := by decide +kernel
theorem dX11_told_19 : decode cX11_told 19 = .ok (.aload_n 0, 1) := by decide +kernel
theorem dX11_told_20 : decode cX11_told 20 = .ok (.iconst 1, 1) := by decide +kernel
theorem dX11_told_21 : decode cX11_told 21 = .ok (.invokevirtual 88, 3) := by decide +kernel
theorem dX11_told_24 : decode cX11_told 24 = .ok (.ireturn, 1) := by decide +kernel
theorem u140_0 {d : Nat} {R : gR} {μ : gM} {l0 : Value} {st : List Value} {x : Int32}  : gc_W (gc_S d) cX11_told 11 0 R 0 [l0, .int x] st μ ↔ gc_W (gc_S d) cX11_told 11 0 R 1 [l0, .int x] (.int x :: st) μ := us_iload_n dX11_told_0 rfl
theorem u140_1 {d : Nat} {R : gR} {μ : gM} {L : List Value} {st : List Value}   : gc_W (gc_S d) cX11_told 11 0 R 1 L st μ ↔ gc_W (gc_S d) cX11_told 11 0 R 2 L (.int 1 :: st) μ := us_iconst dX11_told_1 ci_iconst_1
theorem u140_2 {d : Nat} {R : gR} {μ : gM} {L : List Value} {st : List Value} {x y : Int32}  : gc_W (gc_S d) cX11_told 11 0 R 2 L (.int y :: .int x :: st) μ ↔ if x < y then gc_W (gc_S d) cX11_told 11 0 R 19 L st μ else gc_W (gc_S d) cX11_told 11 0 R 5 L st μ := us_iclt dX11_told_2 rfl
theorem u140_5 {d : Nat} {R : gR} {μ : gM} {l0 : Value} {st : List Value} {x : Int32}  : gc_W (gc_S d) cX11_told 11 0 R 5 [l0, .int x] st μ ↔ gc_W (gc_S d) cX11_told 11 0 R 6 [l0, .int x] (.int x :: st) μ := us_iload_n dX11_told_5 rfl
theorem u140_6 {d : Nat} {R : gR} {μ : gM} {L : List Value} {st : List Value}   : gc_W (gc_S d) cX11_told 11 0 R 6 L st μ ↔ gc_W (gc_S d) cX11_told 11 0 R 7 L (.int 5 :: st) μ := us_iconst dX11_told_6 ci_iconst_5
theorem u140_7 {d : Nat} {R : gR} {μ : gM} {L : List Value} {st : List Value} {x y : Int32}  : gc_W (gc_S d) cX11_told 11 0 R 7 L (.int y :: .int x :: st) μ ↔ if y < x then gc_W (gc_S d) cX11_told 11 0 R 19 L st μ else gc_W (gc_S d) cX11_told 11 0 R 10 L st μ := us_icgt dX11_told_7 rfl
theorem u140_10 {d : Nat} {R : gR} {μ : gM} {l1 : Value} {st : List Value} {x : Nat}  : gc_W (gc_S d) cX11_told 11 0 R 10 [.ref x, l1] st μ ↔ gc_W (gc_S d) cX11_told 11 0 R 11 [.ref x, l1] (.ref x :: st) μ := us_aload_n dX11_told_10 rfl
theorem u140_11 {d : Nat} {R : gR} {μ : gM} {L : List Value} {st : List Value} {o : Nat} (hk : gc_kd o = 11) : gc_W (gc_S d) cX11_told 11 0 R 11 L (.ref o :: st) μ ↔ gc_W (gc_S d) cX11_told 11 0 R 14 L (gc_fv o 6 μ :: st) μ := us_getf dX11_told_11 gf_11_68 hk
theorem u140_14 {d : Nat} {R : gR} {μ : gM} {l0 : Value} {st : List Value} {x : Int32}  : gc_W (gc_S d) cX11_told 11 0 R 14 [l0, .int x] st μ ↔ gc_W (gc_S d) cX11_told 11 0 R 15 [l0, .int x] (.int x :: st) μ := us_iload_n dX11_told_14 rfl
theorem u140_15 {d : Nat} {R : gR} {μ : gM} {L : List Value} {st : List Value} {o : Nat} {i : Int32} (hk : gc_kd o = 20) : gc_W (gc_S d) cX11_told 11 0 R 15 L (.int i :: .ref o :: st) μ ↔ (vp_in i (gc_al o) ∧ gc_W (gc_S d) cX11_told 11 0 R 16 L (.int (μ o i.toNatClampNeg) :: st) μ) := us_iald dX11_told_15 hk
theorem u140_16 {d : Nat} {R : gR} {μ : gM} {L : List Value} {st : List Value}  : gc_W (gc_S d) cX11_told 11 0 R 16 L st μ ↔ gc_W (gc_S d) cX11_told 11 0 R 24 L st μ := us_goto dX11_told_16 rfl
theorem u140_19 {d : Nat} {R : gR} {μ : gM} {l1 : Value} {st : List Value} {x : Nat}  : gc_W (gc_S d) cX11_told 11 0 R 19 [.ref x, l1] st μ ↔ gc_W (gc_S d) cX11_told 11 0 R 20 [.ref x, l1] (.ref x :: st) μ := us_aload_n dX11_told_19 rfl
theorem u140_20 {d : Nat} {R : gR} {μ : gM} {L : List Value} {st : List Value}   : gc_W (gc_S d) cX11_told 11 0 R 20 L st μ ↔ gc_W (gc_S d) cX11_told 11 0 R 21 L (.int 1 :: st) μ := us_iconst dX11_told_20 ci_iconst_1
theorem u140_21 {d : Nat} {R : gR} {μ : gM} {L : List Value} {o : Nat} {a0 : Int32} (hk : gc_kd o = 11) : gc_W (gc_S d) cX11_told 11 0 R 21 L [.int a0, .ref o] μ ↔ gc_S d 75 [.ref o, .int a0] μ (fun v μ' => gc_W (gc_S d) cX11_told 11 0 R 24 L (v.toList ++ []) μ') := us_virt dX11_told_21 gn_11_88 gc_11_88_11 hk rfl rfl rfl rfl rfl
theorem u140_24 {d : Nat} {R : gR} {μ : gM} {L : List Value} {v : Int32}  : gc_W (gc_S d) cX11_told 11 0 R 24 L [.int v] μ ↔ R (some (.int v)) μ := us_iret dX11_told_24 rfl
theorem s140 {d : Nat} {R : gR} {μ : gM} {o : Nat} {a0 : Int32} : gc_S (d + 1) 140 [.ref o, .int a0] μ R ↔ gc_W (gc_S d) cX11_told 11 0 R 0 [.ref o, .int a0] [] μ := us_call (gm_140) rfl rfl
