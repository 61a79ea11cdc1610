theorem dX0_takes_0 : decode cX0_takes 0 = .ok (.aload_n 1, 1) := by decide +kernel
theorem dX0_takes_1 : decode cX0_takes 1 = .ok (.getfield 9, 3) := by decide +kernel
theorem dX0_takes_4 : decode cX0_takes 4 = .ok (.iconst 0, 1) := by decide +kernel
theorem dX0_takes_5 : decode cX0_takes 5 = .ok (.aload_n 0, 1) := by decide +kernel
theorem dX0_takes_6 : decode cX0_takes 6 = .ok (.getfield 9, 3) := by decide +kernel
theorem dX0_takes_9 : decode cX0_takes 9 = .ok (.iconst 0, 1) := by decide +kernel
theorem dX0_takes_10 : decode cX0_takes 10 = .ok (.bipush 16, 2) := by decide +kernel
theorem dX0_takes_12 : decode cX0_takes 12 = .ok (.invokestatic 57, 3) := by decide +kernel
theorem dX0_takes_15 : decode cX0_takes 15 = .ok (.aload_n 1, 1) := by decide +kernel
theorem dX0_takes_16 : decode cX0_takes 16 = .ok (.getfield 18, 3) := by decide +kernel
theorem dX0_takes_19 : decode cX0_takes 19 = .ok (.iconst 0, 1) := by decide +kernel
theorem dX0_takes_20 : decode cX0_takes 20 = .ok (.aload_n 0, 1) := by decide +kernel
theorem dX0_takes_21 : decode cX0_takes 21 = .ok (.getfield 18, 3) := by decide +kernel
theorem dX0_takes_24 : decode cX0_takes 24 = .ok (.iconst 0, 1) := by decide +kernel
theorem dX0_takes_25 : decode cX0_takes 25 = .ok (.bipush 6, 2) := by decide +kernel
theorem dX0_takes_27 : decode cX0_takes 27 = .ok (.invokestatic 57, 3) := by decide +kernel
theorem dX0_takes_30 : decode cX0_takes 30 = .ok (.aload_n 1, 1) := by decide +kernel
theorem dX0_takes_31 : decode cX0_takes 31 = .ok (.getfield 21, 3) := by decide +kernel
theorem dX0_takes_34 : decode cX0_takes 34 = .ok (.iconst 0, 1) := by decide +kernel
theorem dX0_takes_35 : decode cX0_takes 35 = .ok (.aload_n 0, 1) := by decide +kernel
theorem dX0_takes_36 : decode cX0_takes 36 = .ok (.getfield 21, 3) := by decide +kernel
theorem dX0_takes_39 : decode cX0_takes 39 = .ok (.iconst 0, 1) := by decide +kernel
theorem dX0_takes_40 : decode cX0_takes 40 = .ok (.bipush 8, 2) := by decide +kernel
theorem dX0_takes_42 : decode cX0_takes 42 = .ok (.invokestatic 57, 3) := by decide +kernel
theorem dX0_takes_45 : decode cX0_takes 45 = .ok (.aload_n 1, 1) := by decide +kernel
theorem dX0_takes_46 : decode cX0_takes 46 = .ok (.getfield 24, 3) := by decide +kernel
theorem dX0_takes_49 : decode cX0_takes 49 = .ok (.iconst 0, 1) := by decide +kernel
theorem dX0_takes_50 : decode cX0_takes 50 = .ok (.aload_n 0, 1) := by decide +kernel
theorem dX0_takes_51 : decode cX0_takes 51 = .ok (.getfield 24, 3) := by decide +kernel
theorem dX0_takes_54 : decode cX0_takes 54 = .ok (.iconst 0, 1) := by decide +kernel
theorem dX0_takes_55 : decode cX0_takes 55 = .ok (.bipush 8, 2) := by decide +kernel
theorem dX0_takes_57 : decode cX0_takes 57 = .ok (.invokestatic 57, 3) := by decide +kernel
theorem dX0_takes_60 : decode cX0_takes 60 = .ok (.aload_n 1, 1) := by decide +kernel
theorem dX0_takes_61 : decode cX0_takes 61 = .ok (.getfield 27, 3) := by decide +kernel
theorem dX0_takes_64 : decode cX0_takes 64 = .ok (.iconst 0, 1) := by decide +kernel
theorem dX0_takes_65 : decode cX0_takes 65 = .ok (.aload_n 0, 1) := by decide +kernel
theorem dX0_takes_66 : decode cX0_takes 66 = .ok (.getfield 27, 3) := by decide +kernel
theorem dX0_takes_69 : decode cX0_takes 69 = .ok (.iconst 0, 1) := by decide +kernel
theorem dX0_takes_70 : decode cX0_takes 70 = .ok (.bipush 8, 2) := by decide +kernel
theorem dX0_takes_72 : decode cX0_takes 72 = .ok (.invokestatic 57, 3) := by decide +kernel
theorem dX0_takes_75 : decode cX0_takes 75 = .ok (.aload_n 1, 1) := by decide +kernel
theorem dX0_takes_76 : decode cX0_takes 76 = .ok (.getfield 30, 3) := by decide +kernel
theorem dX0_takes_79 : decode cX0_takes 79 = .ok (.iconst 0, 1) := by decide +kernel
theorem dX0_takes_80 : decode cX0_takes 80 = .ok (.aload_n 0, 1) := by decide +kernel
theorem dX0_takes_81 : decode cX0_takes 81 = .ok (.getfield 30, 3) := by decide +kernel
theorem dX0_takes_84 : decode cX0_takes 84 = .ok (.iconst 0, 1) := by decide +kernel
theorem dX0_takes_85 : decode cX0_takes 85 = .ok (.bipush 8, 2) := by decide +kernel
theorem dX0_takes_87 : decode cX0_takes 87 = .ok (.invokestatic 57, 3) := by decide +kernel
theorem dX0_takes_90 : decode cX0_takes 90 = .ok (.aload_n 0, 1) := by decide +kernel
theorem dX0_takes_91 : decode cX0_takes 91 = .ok (.aload_n 1, 1) := by decide +kernel
theorem dX0_takes_92 : decode cX0_takes 92 = .ok (.getfield 63, 3) := by decide +kernel
theorem dX0_takes_95 : decode cX0_takes 95 = .ok (.putfield 63, 3) := by decide +kernel
theorem dX0_takes_98 : decode cX0_takes 98 = .ok (.aload_n 0, 1) := by decide +kernel
theorem dX0_takes_99 : decode cX0_takes 99 = .ok (.aload_n 1, 1) := by decide +kernel
theorem dX0_takes_100 : decode cX0_takes 100 = .ok (.getfield 66, 3) := by decide +kernel
theorem dX0_takes_103 : decode cX0_takes 103 = .ok (.putfield 66, 3) := by decide +kernel
theorem dX0_takes_106 : decode cX0_takes 106 = .ok (.aload_n 0, 1) := by decide +kernel
theorem dX0_takes_107 : decode cX0_takes 107 = .ok (.aload_n 1, 1) := by decide +kernel
theorem dX0_takes_108 : decode cX0_takes 108 = .ok (.getfield 69, 3) := by decide +kernel
theorem dX0_takes_111 : decode cX0_takes 111 = .ok (.putfield 69, 3) := by decide +kernel
theorem dX0_takes_114 : decode cX0_takes 114 = .ok (.return_, 1) := by decide +kernel
theorem u0_0 {d : Nat} {R : gR} {μ : gM} {l0 : Value} {st : List Value} {x : Nat}  : gc_W (gc_S d) cX0_takes 0 2 R 0 [l0, .ref x] st μ ↔ gc_W (gc_S d) cX0_takes 0 2 R 1 [l0, .ref x] (.ref x :: st) μ := us_aload_n dX0_takes_0 rfl
theorem u0_1 {d : Nat} {R : gR} {μ : gM} {L : List Value} {st : List Value} {o : Nat} (hk : gc_kd o = 0) : gc_W (gc_S d) cX0_takes 0 2 R 1 L (.ref o :: st) μ ↔ gc_W (gc_S d) cX0_takes 0 2 R 4 L (gc_fv o 2 μ :: st) μ := us_getf dX0_takes_1 gf_0_9 hk
theorem u0_4 {d : Nat} {R : gR} {μ : gM} {L : List Value} {st : List Value}   : gc_W (gc_S d) cX0_takes 0 2 R 4 L st μ ↔ gc_W (gc_S d) cX0_takes 0 2 R 5 L (.int 0 :: st) μ := us_iconst dX0_takes_4 ci_iconst_0
theorem u0_5 {d : Nat} {R : gR} {μ : gM} {l1 : Value} {st : List Value} {x : Nat}  : gc_W (gc_S d) cX0_takes 0 2 R 5 [.ref x, l1] st μ ↔ gc_W (gc_S d) cX0_takes 0 2 R 6 [.ref x, l1] (.ref x :: st) μ := us_aload_n dX0_takes_5 rfl
theorem u0_6 {d : Nat} {R : gR} {μ : gM} {L : List Value} {st : List Value} {o : Nat} (hk : gc_kd o = 0) : gc_W (gc_S d) cX0_takes 0 2 R 6 L (.ref o :: st) μ ↔ gc_W (gc_S d) cX0_takes 0 2 R 9 L (gc_fv o 2 μ :: st) μ := us_getf dX0_takes_6 gf_0_9 hk
theorem u0_9 {d : Nat} {R : gR} {μ : gM} {L : List Value} {st : List Value}   : gc_W (gc_S d) cX0_takes 0 2 R 9 L st μ ↔ gc_W (gc_S d) cX0_takes 0 2 R 10 L (.int 0 :: st) μ := us_iconst dX0_takes_9 ci_iconst_0
theorem u0_10 {d : Nat} {R : gR} {μ : gM} {L : List Value} {st : List Value}   : gc_W (gc_S d) cX0_takes 0 2 R 10 L st μ ↔ gc_W (gc_S d) cX0_takes 0 2 R 12 L (.int 16 :: st) μ := us_bipush dX0_takes_10 ci_bipush_16
theorem u0_12 {d : Nat} {R : gR} {μ : gM} {L : List Value} {o1 o2 : Nat} {sp dp z : Int32} (hk1 : gc_kd o1 = 20) (hk2 : gc_kd o2 = 20) : gc_W (gc_S d) cX0_takes 0 2 R 12 L [.int z, .int dp, .ref o2, .int sp, .ref o1] μ ↔ ((¬ sp < 0 ∧ ¬ dp < 0 ∧ ¬ z < 0 ∧ sp.toNatClampNeg + z.toNatClampNeg ≤ gc_al o1 ∧ dp.toNatClampNeg + z.toNatClampNeg ≤ gc_al o2) ∧ gc_W (gc_S d) cX0_takes 0 2 R 15 L [] (gc_cp μ o1 o2 sp.toNatClampNeg dp.toNatClampNeg z.toNatClampNeg)) := us_copy dX0_takes_12 gs_0_57 rfl hk1 hk2
theorem u0_15 {d : Nat} {R : gR} {μ : gM} {l0 : Value} {st : List Value} {x : Nat}  : gc_W (gc_S d) cX0_takes 0 2 R 15 [l0, .ref x] st μ ↔ gc_W (gc_S d) cX0_takes 0 2 R 16 [l0, .ref x] (.ref x :: st) μ := us_aload_n dX0_takes_15 rfl
theorem u0_16 {d : Nat} {R : gR} {μ : gM} {L : List Value} {st : List Value} {o : Nat} (hk : gc_kd o = 0) : gc_W (gc_S d) cX0_takes 0 2 R 16 L (.ref o :: st) μ ↔ gc_W (gc_S d) cX0_takes 0 2 R 19 L (gc_fv o 4 μ :: st) μ := us_getf dX0_takes_16 gf_0_18 hk
theorem u0_19 {d : Nat} {R : gR} {μ : gM} {L : List Value} {st : List Value}   : gc_W (gc_S d) cX0_takes 0 2 R 19 L st μ ↔ gc_W (gc_S d) cX0_takes 0 2 R 20 L (.int 0 :: st) μ := us_iconst dX0_takes_19 ci_iconst_0
theorem u0_20 {d : Nat} {R : gR} {μ : gM} {l1 : Value} {st : List Value} {x : Nat}  : gc_W (gc_S d) cX0_takes 0 2 R 20 [.ref x, l1] st μ ↔ gc_W (gc_S d) cX0_takes 0 2 R 21 [.ref x, l1] (.ref x :: st) μ := us_aload_n dX0_takes_20 rfl
theorem u0_21 {d : Nat} {R : gR} {μ : gM} {L : List Value} {st : List Value} {o : Nat} (hk : gc_kd o = 0) : gc_W (gc_S d) cX0_takes 0 2 R 21 L (.ref o :: st) μ ↔ gc_W (gc_S d) cX0_takes 0 2 R 24 L (gc_fv o 4 μ :: st) μ := us_getf dX0_takes_21 gf_0_18 hk
theorem u0_24 {d : Nat} {R : gR} {μ : gM} {L : List Value} {st : List Value}   : gc_W (gc_S d) cX0_takes 0 2 R 24 L st μ ↔ gc_W (gc_S d) cX0_takes 0 2 R 25 L (.int 0 :: st) μ := us_iconst dX0_takes_24 ci_iconst_0
theorem u0_25 {d : Nat} {R : gR} {μ : gM} {L : List Value} {st : List Value}   : gc_W (gc_S d) cX0_takes 0 2 R 25 L st μ ↔ gc_W (gc_S d) cX0_takes 0 2 R 27 L (.int 6 :: st) μ := us_bipush dX0_takes_25 ci_bipush_6
theorem u0_27 {d : Nat} {R : gR} {μ : gM} {L : List Value} {o1 o2 : Nat} {sp dp z : Int32} (hk1 : gc_kd o1 = 20) (hk2 : gc_kd o2 = 20) : gc_W (gc_S d) cX0_takes 0 2 R 27 L [.int z, .int dp, .ref o2, .int sp, .ref o1] μ ↔ ((¬ sp < 0 ∧ ¬ dp < 0 ∧ ¬ z < 0 ∧ sp.toNatClampNeg + z.toNatClampNeg ≤ gc_al o1 ∧ dp.toNatClampNeg + z.toNatClampNeg ≤ gc_al o2) ∧ gc_W (gc_S d) cX0_takes 0 2 R 30 L [] (gc_cp μ o1 o2 sp.toNatClampNeg dp.toNatClampNeg z.toNatClampNeg)) := us_copy dX0_takes_27 gs_0_57 rfl hk1 hk2
theorem u0_30 {d : Nat} {R : gR} {μ : gM} {l0 : Value} {st : List Value} {x : Nat}  : gc_W (gc_S d) cX0_takes 0 2 R 30 [l0, .ref x] st μ ↔ gc_W (gc_S d) cX0_takes 0 2 R 31 [l0, .ref x] (.ref x :: st) μ := us_aload_n dX0_takes_30 rfl
theorem u0_31 {d : Nat} {R : gR} {μ : gM} {L : List Value} {st : List Value} {o : Nat} (hk : gc_kd o = 0) : gc_W (gc_S d) cX0_takes 0 2 R 31 L (.ref o :: st) μ ↔ gc_W (gc_S d) cX0_takes 0 2 R 34 L (gc_fv o 5 μ :: st) μ := us_getf dX0_takes_31 gf_0_21 hk
theorem u0_34 {d : Nat} {R : gR} {μ : gM} {L : List Value} {st : List Value}   : gc_W (gc_S d) cX0_takes 0 2 R 34 L st μ ↔ gc_W (gc_S d) cX0_takes 0 2 R 35 L (.int 0 :: st) μ := us_iconst dX0_takes_34 ci_iconst_0
theorem u0_35 {d : Nat} {R : gR} {μ : gM} {l1 : Value} {st : List Value} {x : Nat}  : gc_W (gc_S d) cX0_takes 0 2 R 35 [.ref x, l1] st μ ↔ gc_W (gc_S d) cX0_takes 0 2 R 36 [.ref x, l1] (.ref x :: st) μ := us_aload_n dX0_takes_35 rfl
theorem u0_36 {d : Nat} {R : gR} {μ : gM} {L : List Value} {st : List Value} {o : Nat} (hk : gc_kd o = 0) : gc_W (gc_S d) cX0_takes 0 2 R 36 L (.ref o :: st) μ ↔ gc_W (gc_S d) cX0_takes 0 2 R 39 L (gc_fv o 5 μ :: st) μ := us_getf dX0_takes_36 gf_0_21 hk
theorem u0_39 {d : Nat} {R : gR} {μ : gM} {L : List Value} {st : List Value}   : gc_W (gc_S d) cX0_takes 0 2 R 39 L st μ ↔ gc_W (gc_S d) cX0_takes 0 2 R 40 L (.int 0 :: st) μ := us_iconst dX0_takes_39 ci_iconst_0
theorem u0_40 {d : Nat} {R : gR} {μ : gM} {L : List Value} {st : List Value}   : gc_W (gc_S d) cX0_takes 0 2 R 40 L st μ ↔ gc_W (gc_S d) cX0_takes 0 2 R 42 L (.int 8 :: st) μ := us_bipush dX0_takes_40 ci_bipush_8
theorem u0_42 {d : Nat} {R : gR} {μ : gM} {L : List Value} {o1 o2 : Nat} {sp dp z : Int32} (hk1 : gc_kd o1 = 20) (hk2 : gc_kd o2 = 20) : gc_W (gc_S d) cX0_takes 0 2 R 42 L [.int z, .int dp, .ref o2, .int sp, .ref o1] μ ↔ ((¬ sp < 0 ∧ ¬ dp < 0 ∧ ¬ z < 0 ∧ sp.toNatClampNeg + z.toNatClampNeg ≤ gc_al o1 ∧ dp.toNatClampNeg + z.toNatClampNeg ≤ gc_al o2) ∧ gc_W (gc_S d) cX0_takes 0 2 R 45 L [] (gc_cp μ o1 o2 sp.toNatClampNeg dp.toNatClampNeg z.toNatClampNeg)) := us_copy dX0_takes_42 gs_0_57 rfl hk1 hk2
theorem u0_45 {d : Nat} {R : gR} {μ : gM} {l0 : Value} {st : List Value} {x : Nat}  : gc_W (gc_S d) cX0_takes 0 2 R 45 [l0, .ref x] st μ ↔ gc_W (gc_S d) cX0_takes 0 2 R 46 [l0, .ref x] (.ref x :: st) μ := us_aload_n dX0_takes_45 rfl
theorem u0_46 {d : Nat} {R : gR} {μ : gM} {L : List Value} {st : List Value} {o : Nat} (hk : gc_kd o = 0) : gc_W (gc_S d) cX0_takes 0 2 R 46 L (.ref o :: st) μ ↔ gc_W (gc_S d) cX0_takes 0 2 R 49 L (gc_fv o 6 μ :: st) μ := us_getf dX0_takes_46 gf_0_24 hk
theorem u0_49 {d : Nat} {R : gR} {μ : gM} {L : List Value} {st : List Value}   : gc_W (gc_S d) cX0_takes 0 2 R 49 L st μ ↔ gc_W (gc_S d) cX0_takes 0 2 R 50 L (.int 0 :: st) μ := us_iconst dX0_takes_49 ci_iconst_0
theorem u0_50 {d : Nat} {R : gR} {μ : gM} {l1 : Value} {st : List Value} {x : Nat}  : gc_W (gc_S d) cX0_takes 0 2 R 50 [.ref x, l1] st μ ↔ gc_W (gc_S d) cX0_takes 0 2 R 51 [.ref x, l1] (.ref x :: st) μ := us_aload_n dX0_takes_50 rfl
theorem u0_51 {d : Nat} {R : gR} {μ : gM} {L : List Value} {st : List Value} {o : Nat} (hk : gc_kd o = 0) : gc_W (gc_S d) cX0_takes 0 2 R 51 L (.ref o :: st) μ ↔ gc_W (gc_S d) cX0_takes 0 2 R 54 L (gc_fv o 6 μ :: st) μ := us_getf dX0_takes_51 gf_0_24 hk
theorem u0_54 {d : Nat} {R : gR} {μ : gM} {L : List Value} {st : List Value}   : gc_W (gc_S d) cX0_takes 0 2 R 54 L st μ ↔ gc_W (gc_S d) cX0_takes 0 2 R 55 L (.int 0 :: st) μ := us_iconst dX0_takes_54 ci_iconst_0
theorem u0_55 {d : Nat} {R : gR} {μ : gM} {L : List Value} {st : List Value}   : gc_W (gc_S d) cX0_takes 0 2 R 55 L st μ ↔ gc_W (gc_S d) cX0_takes 0 2 R 57 L (.int 8 :: st) μ := us_bipush dX0_takes_55 ci_bipush_8
theorem u0_57 {d : Nat} {R : gR} {μ : gM} {L : List Value} {o1 o2 : Nat} {sp dp z : Int32} (hk1 : gc_kd o1 = 20) (hk2 : gc_kd o2 = 20) : gc_W (gc_S d) cX0_takes 0 2 R 57 L [.int z, .int dp, .ref o2, .int sp, .ref o1] μ ↔ ((¬ sp < 0 ∧ ¬ dp < 0 ∧ ¬ z < 0 ∧ sp.toNatClampNeg + z.toNatClampNeg ≤ gc_al o1 ∧ dp.toNatClampNeg + z.toNatClampNeg ≤ gc_al o2) ∧ gc_W (gc_S d) cX0_takes 0 2 R 60 L [] (gc_cp μ o1 o2 sp.toNatClampNeg dp.toNatClampNeg z.toNatClampNeg)) := us_copy dX0_takes_57 gs_0_57 rfl hk1 hk2
theorem u0_60 {d : Nat} {R : gR} {μ : gM} {l0 : Value} {st : List Value} {x : Nat}  : gc_W (gc_S d) cX0_takes 0 2 R 60 [l0, .ref x] st μ ↔ gc_W (gc_S d) cX0_takes 0 2 R 61 [l0, .ref x] (.ref x :: st) μ := us_aload_n dX0_takes_60 rfl
theorem u0_61 {d : Nat} {R : gR} {μ : gM} {L : List Value} {st : List Value} {o : Nat} (hk : gc_kd o = 0) : gc_W (gc_S d) cX0_takes 0 2 R 61 L (.ref o :: st) μ ↔ gc_W (gc_S d) cX0_takes 0 2 R 64 L (gc_fv o 7 μ :: st) μ := us_getf dX0_takes_61 gf_0_27 hk
theorem u0_64 {d : Nat} {R : gR} {μ : gM} {L : List Value} {st : List Value}   : gc_W (gc_S d) cX0_takes 0 2 R 64 L st μ ↔ gc_W (gc_S d) cX0_takes 0 2 R 65 L (.int 0 :: st) μ := us_iconst dX0_takes_64 ci_iconst_0
theorem u0_65 {d : Nat} {R : gR} {μ : gM} {l1 : Value} {st : List Value} {x : Nat}  : gc_W (gc_S d) cX0_takes 0 2 R 65 [.ref x, l1] st μ ↔ gc_W (gc_S d) cX0_takes 0 2 R 66 [.ref x, l1] (.ref x :: st) μ := us_aload_n dX0_takes_65 rfl
theorem u0_66 {d : Nat} {R : gR} {μ : gM} {L : List Value} {st : List Value} {o : Nat} (hk : gc_kd o = 0) : gc_W (gc_S d) cX0_takes 0 2 R 66 L (.ref o :: st) μ ↔ gc_W (gc_S d) cX0_takes 0 2 R 69 L (gc_fv o 7 μ :: st) μ := us_getf dX0_takes_66 gf_0_27 hk
theorem u0_69 {d : Nat} {R : gR} {μ : gM} {L : List Value} {st : List Value}   : gc_W (gc_S d) cX0_takes 0 2 R 69 L st μ ↔ gc_W (gc_S d) cX0_takes 0 2 R 70 L (.int 0 :: st) μ := us_iconst dX0_takes_69 ci_iconst_0
theorem u0_70 {d : Nat} {R : gR} {μ : gM} {L : List Value} {st : List Value}   : gc_W (gc_S d) cX0_takes 0 2 R 70 L st μ ↔ gc_W (gc_S d) cX0_takes 0 2 R 72 L (.int 8 :: st) μ := us_bipush dX0_takes_70 ci_bipush_8
theorem u0_72 {d : Nat} {R : gR} {μ : gM} {L : List Value} {o1 o2 : Nat} {sp dp z : Int32} (hk1 : gc_kd o1 = 20) (hk2 : gc_kd o2 = 20) : gc_W (gc_S d) cX0_takes 0 2 R 72 L [.int z, .int dp, .ref o2, .int sp, .ref o1] μ ↔ ((¬ sp < 0 ∧ ¬ dp < 0 ∧ ¬ z < 0 ∧ sp.toNatClampNeg + z.toNatClampNeg ≤ gc_al o1 ∧ dp.toNatClampNeg + z.toNatClampNeg ≤ gc_al o2) ∧ gc_W (gc_S d) cX0_takes 0 2 R 75 L [] (gc_cp μ o1 o2 sp.toNatClampNeg dp.toNatClampNeg z.toNatClampNeg)) := us_copy dX0_takes_72 gs_0_57 rfl hk1 hk2
theorem u0_75 {d : Nat} {R : gR} {μ : gM} {l0 : Value} {st : List Value} {x : Nat}  : gc_W (gc_S d) cX0_takes 0 2 R 75 [l0, .ref x] st μ ↔ gc_W (gc_S d) cX0_takes 0 2 R 76 [l0, .ref x] (.ref x :: st) μ := us_aload_n dX0_takes_75 rfl
theorem u0_76 {d : Nat} {R : gR} {μ : gM} {L : List Value} {st : List Value} {o : Nat} (hk : gc_kd o = 0) : gc_W (gc_S d) cX0_takes 0 2 R 76 L (.ref o :: st) μ ↔ gc_W (gc_S d) cX0_takes 0 2 R 79 L (gc_fv o 8 μ :: st) μ := us_getf dX0_takes_76 gf_0_30 hk
theorem u0_79 {d : Nat} {R : gR} {μ : gM} {L : List Value} {st : List Value}   : gc_W (gc_S d) cX0_takes 0 2 R 79 L st μ ↔ gc_W (gc_S d) cX0_takes 0 2 R 80 L (.int 0 :: st) μ := us_iconst dX0_takes_79 ci_iconst_0
theorem u0_80 {d : Nat} {R : gR} {μ : gM} {l1 : Value} {st : List Value} {x : Nat}  : gc_W (gc_S d) cX0_takes 0 2 R 80 [.ref x, l1] st μ ↔ gc_W (gc_S d) cX0_takes 0 2 R 81 [.ref x, l1] (.ref x :: st) μ := us_aload_n dX0_takes_80 rfl
theorem u0_81 {d : Nat} {R : gR} {μ : gM} {L : List Value} {st : List Value} {o : Nat} (hk : gc_kd o = 0) : gc_W (gc_S d) cX0_takes 0 2 R 81 L (.ref o :: st) μ ↔ gc_W (gc_S d) cX0_takes 0 2 R 84 L (gc_fv o 8 μ :: st) μ := us_getf dX0_takes_81 gf_0_30 hk
theorem u0_84 {d : Nat} {R : gR} {μ : gM} {L : List Value} {st : List Value}   : gc_W (gc_S d) cX0_takes 0 2 R 84 L st μ ↔ gc_W (gc_S d) cX0_takes 0 2 R 85 L (.int 0 :: st) μ := us_iconst dX0_takes_84 ci_iconst_0
theorem u0_85 {d : Nat} {R : gR} {μ : gM} {L : List Value} {st : List Value}   : gc_W (gc_S d) cX0_takes 0 2 R 85 L st μ ↔ gc_W (gc_S d) cX0_takes 0 2 R 87 L (.int 8 :: st) μ := us_bipush dX0_takes_85 ci_bipush_8
theorem u0_87 {d : Nat} {R : gR} {μ : gM} {L : List Value} {o1 o2 : Nat} {sp dp z : Int32} (hk1 : gc_kd o1 = 20) (hk2 : gc_kd o2 = 20) : gc_W (gc_S d) cX0_takes 0 2 R 87 L [.int z, .int dp, .ref o2, .int sp, .ref o1] μ ↔ ((¬ sp < 0 ∧ ¬ dp < 0 ∧ ¬ z < 0 ∧ sp.toNatClampNeg + z.toNatClampNeg ≤ gc_al o1 ∧ dp.toNatClampNeg + z.toNatClampNeg ≤ gc_al o2) ∧ gc_W (gc_S d) cX0_takes 0 2 R 90 L [] (gc_cp μ o1 o2 sp.toNatClampNeg dp.toNatClampNeg z.toNatClampNeg)) := us_copy dX0_takes_87 gs_0_57 rfl hk1 hk2
theorem u0_90 {d : Nat} {R : gR} {μ : gM} {l1 : Value} {st : List Value} {x : Nat}  : gc_W (gc_S d) cX0_takes 0 2 R 90 [.ref x, l1] st μ ↔ gc_W (gc_S d) cX0_takes 0 2 R 91 [.ref x, l1] (.ref x :: st) μ := us_aload_n dX0_takes_90 rfl
theorem u0_91 {d : Nat} {R : gR} {μ : gM} {l0 : Value} {st : List Value} {x : Nat}  : gc_W (gc_S d) cX0_takes 0 2 R 91 [l0, .ref x] st μ ↔ gc_W (gc_S d) cX0_takes 0 2 R 92 [l0, .ref x] (.ref x :: st) μ := us_aload_n dX0_takes_91 rfl
theorem u0_92 {d : Nat} {R : gR} {μ : gM} {L : List Value} {st : List Value} {o : Nat} (hk : gc_kd o = 0) : gc_W (gc_S d) cX0_takes 0 2 R 92 L (.ref o :: st) μ ↔ gc_W (gc_S d) cX0_takes 0 2 R 95 L (gc_fv o 11 μ :: st) μ := us_getf dX0_takes_92 gf_0_63 hk
theorem u0_95 {d : Nat} {R : gR} {μ : gM} {L : List Value} {st : List Value} {o : Nat} {x : Int32} (hk : gc_kd o = 0) (hj : gc_fk o 11 = 0) : gc_W (gc_S d) cX0_takes 0 2 R 95 L (.int x :: .ref o :: st) μ ↔ gc_W (gc_S d) cX0_takes 0 2 R 98 L st (gc_up μ o 11 x) := us_putf dX0_takes_95 gf_0_63 hk hj rfl
theorem u0_98 {d : Nat} {R : gR} {μ : gM} {l1 : Value} {st : List Value} {x : Nat}  : gc_W (gc_S d) cX0_takes 0 2 R 98 [.ref x, l1] st μ ↔ gc_W (gc_S d) cX0_takes 0 2 R 99 [.ref x, l1] (.ref x :: st) μ := us_aload_n dX0_takes_98 rfl
theorem u0_99 {d : Nat} {R : gR} {μ : gM} {l0 : Value} {st : List Value} {x : Nat}  : gc_W (gc_S d) cX0_takes 0 2 R 99 [l0, .ref x] st μ ↔ gc_W (gc_S d) cX0_takes 0 2 R 100 [l0, .ref x] (.ref x :: st) μ := us_aload_n dX0_takes_99 rfl
theorem u0_100 {d : Nat} {R : gR} {μ : gM} {L : List Value} {st : List Value} {o : Nat} (hk : gc_kd o = 0) : gc_W (gc_S d) cX0_takes 0 2 R 100 L (.ref o :: st) μ ↔ gc_W (gc_S d) cX0_takes 0 2 R 103 L (gc_fv o 12 μ :: st) μ := us_getf dX0_takes_100 gf_0_66 hk
theorem u0_103 {d : Nat} {R : gR} {μ : gM} {L : List Value} {st : List Value} {o : Nat} {x : Int32} (hk : gc_kd o = 0) (hj : gc_fk o 12 = 0) : gc_W (gc_S d) cX0_takes 0 2 R 103 L (.int x :: .ref o :: st) μ ↔ gc_W (gc_S d) cX0_takes 0 2 R 106 L st (gc_up μ o 12 x) := us_putf dX0_takes_103 gf_0_66 hk hj rfl
theorem u0_106 {d : Nat} {R : gR} {μ : gM} {l1 : Value} {st : List Value} {x : Nat}  : gc_W (gc_S d) cX0_takes 0 2 R 106 [.ref x, l1] st μ ↔ gc_W (gc_S d) cX0_takes 0 2 R 107 [.ref x, l1] (.ref x :: st) μ := us_aload_n dX0_takes_106 rfl
theorem u0_107 {d : Nat} {R : gR} {μ : gM} {l0 : Value} {st : List Value} {x : Nat}  : gc_W (gc_S d) cX0_takes 0 2 R 107 [l0, .ref x] st μ ↔ gc_W (gc_S d) cX0_takes 0 2 R 108 [l0, .ref x] (.ref x :: st) μ := us_aload_n dX0_takes_107 rfl
theorem u0_108 {d : Nat} {R : gR} {μ : gM} {L : List Value} {st : List Value} {o : Nat} (hk : gc_kd o = 0) : gc_W (gc_S d) cX0_takes 0 2 R 108 L (.ref o :: st) μ ↔ gc_W (gc_S d) cX0_takes 0 2 R 111 L (gc_fv o 13 μ :: st) μ := us_getf dX0_takes_108 gf_0_69 hk
theorem u0_111 {d : Nat} {R : gR} {μ : gM} {L : List Value} {st : List Value} {o : Nat} {x : Int32} (hk : gc_kd o = 0) (hj : gc_fk o 13 = 0) : gc_W (gc_S d) cX0_takes 0 2 R 111 L (.int x :: .ref o :: st) μ ↔ gc_W (gc_S d) cX0_takes 0 2 R 114 L st (gc_up μ o 13 x) := us_putf dX0_takes_111 gf_0_69 hk hj rfl
theorem u0_114 {d : Nat} {R : gR} {μ : gM} {L : List Value}   : gc_W (gc_S d) cX0_takes 0 2 R 114 L [] μ ↔ R none μ := us_vret dX0_takes_114 rfl
theorem s0 {d : Nat} {R : gR} {μ : gM} {o : Nat} {a0 : Nat} : gc_S (d + 1) 0 [.ref o, .ref a0] μ R ↔ gc_W (gc_S d) cX0_takes 0 2 R 0 [.ref o, .ref a0] [] μ := us_call (gm_0) rfl rfl
theorem dX0_takesAll_0 : decode cX0_takesAll 0 = .ok (.aload_n 0, 1) := by decide +kernel
theorem dX0_takesAll_1 : decode cX0_takesAll 1 = .ok (.aload_n 1, 1) := by decide +kernel
theorem dX0_takesAll_2 : decode cX0_takesAll 2 = .ok (.invokevirtual 72, 3) := by decide +kernel
theorem dX0_takesAll_5 : decode cX0_takesAll 5 = .ok (.aload_n 0, 1) := by decide +kernel
theorem dX0_takesAll_6 : decode cX0_takesAll 6 = .ok (.getfield 53, 3) := by decide +kernel
theorem dX0_takesAll_9 : decode cX0_takesAll 9 = .ok (.iconst 0, 1) := by decide +kernel
theorem dX0_takesAll_10 : decode cX0_takesAll 10 = .ok (.aaload, 1) := by decide +kernel
theorem dX0_takesAll_11 : decode cX0_takesAll 11 = .ok (.getfield 76, 3) := by decide +kernel
theorem dX0_takesAll_14 : decode cX0_takesAll 14 = .ok (.aload_n 1, 1) := by decide +kernel
theorem dX0_takesAll_15 : decode cX0_takesAll 15 = .ok (.getfield 53, 3) := by decide +kernel
theorem dX0_takesAll_18 : decode cX0_takesAll 18 = .ok (.iconst 0, 1) := by decide +kernel
theorem dX0_takesAll_19 : decode cX0_takesAll 19 = .ok (.aaload, 1) := by decide +kernel
theorem dX0_takesAll_20 : decode cX0_takesAll 20 = .ok (.getfield 76, 3) := by decide +kernel
theorem dX0_takesAll_23 : decode cX0_takesAll 23 = .ok (.invokevirtual 81, 3) := by decide +kernel
theorem dX0_takesAll_26 : decode cX0_takesAll 26 = .ok (.aload_n 0, 1) := by decide +kernel
theorem dX0_takesAll_27 : decode cX0_takesAll 27 = .ok (.getfield 53, 3) := by decide +kernel
theorem dX0_takesAll_30 : decode cX0_takesAll 30 = .ok (.iconst 1, 1) := by decide +kernel
theorem dX0_takesAll_31 : decode cX0_takesAll 31 = .ok (.aaload, 1) := by decide +kernel
theorem dX0_takesAll_32 : decode cX0_takesAll 32 = .ok (.getfield 76, 3) := by decide +kernel
theorem dX0_takesAll_35 : decode cX0_takesAll 35 = .ok (.aload_n 1, 1) := by decide +kernel
theorem dX0_takesAll_36 : decode cX0_takesAll 36 = .ok (.getfield 53, 3) := by decide +kernel
theorem dX0_takesAll_39 : decode cX0_takesAll 39 = .ok (.iconst 1, 1) := by decide +kernel
theorem dX0_takesAll_40 : decode cX0_takesAll 40 = .ok (.aaload, 1) := by decide +kernel
theorem dX0_takesAll_41 : decode cX0_takesAll 41 = .ok (.getfield 76, 3) := by decide +kernel
theorem dX0_takesAll_44 : decode cX0_takesAll 44 = .ok (.invokevirtual 81, 3) := by decide +kernel
theorem dX0_takesAll_47 : decode cX0_takesAll 47 = .ok (.aload_n 0, 1) := by decide +kernel
theorem dX0_takesAll_48 : decode cX0_takesAll 48 = .ok (.getfield 38, 3) := by decide +kernel
theorem dX0_takesAll_51 : decode cX0_takesAll 51 = .ok (.aload_n 1, 1) := by decide +kernel
theorem dX0_takesAll_52 : decode cX0_takesAll 52 = .ok (.getfield 38, 3) := by decide +kernel
theorem dX0_takesAll_55 : decode cX0_takesAll 55 = .ok (.invokevirtual 81, 3) := by decide +kernel
theorem dX0_takesAll_58 : decode cX0_takesAll 58 = .ok (.aload_n 0, 1) := by decide +kernel
theorem dX0_takesAll_59 : decode cX0_takesAll 59 = .ok (.getfield 42, 3) := by decide +kernel
theorem dX0_takesAll_62 : decode cX0_takesAll 62 = .ok (.aload_n 1, 1) := by decide +kernel
theorem dX0_takesAll_63 : decode cX0_takesAll 63 = .ok (.getfield 42, 3) := by decide +kernel
theorem dX0_takesAll_66 : decode cX0_takesAll 66 = .ok (.invokevirtual 81, 3) := by decide +kernel
theorem dX0_takesAll_69 : decode cX0_takesAll 69 = .ok (.aload_n 0, 1) := by decide +kernel
theorem dX0_takesAll_70 : decode cX0_takesAll 70 = .ok (.aload_n 1, 1) := by decide +kernel
theorem dX0_takesAll_71 : decode cX0_takesAll 71 = .ok (.getfield 45, 3) := by decide +kernel
theorem dX0_takesAll_74 : decode cX0_takesAll 74 = .ok (.putfield 45, 3) := by decide +kernel
theorem dX0_takesAll_77 : decode cX0_takesAll 77 = .ok (.return_, 1) := by decide +kernel
theorem u2_0 {d : Nat} {R : gR} {μ : gM} {l1 : Value} {st : List Value} {x : Nat}  : gc_W (gc_S d) cX0_takesAll 0 2 R 0 [.ref x, l1] st μ ↔ gc_W (gc_S d) cX0_takesAll 0 2 R 1 [.ref x, l1] (.ref x :: st) μ := us_aload_n dX0_takesAll_0 rfl
theorem u2_1 {d : Nat} {R : gR} {μ : gM} {l0 : Value} {st : List Value} {x : Nat}  : gc_W (gc_S d) cX0_takesAll 0 2 R 1 [l0, .ref x] st μ ↔ gc_W (gc_S d) cX0_takesAll 0 2 R 2 [l0, .ref x] (.ref x :: st) μ := us_aload_n dX0_takesAll_1 rfl
theorem u2_2 {d : Nat} {R : gR} {μ : gM} {L : List Value} {o : Nat} {a0 : Nat} (hk : gc_kd o = 0) : gc_W (gc_S d) cX0_takesAll 0 2 R 2 L [.ref a0, .ref o] μ ↔ gc_S d 0 [.ref o, .ref a0] μ (fun v μ' => gc_W (gc_S d) cX0_takesAll 0 2 R 5 L (v.toList ++ []) μ') := us_virt dX0_takesAll_2 gn_0_72 gc_0_72_0 hk rfl rfl rfl rfl rfl
theorem u2_5 {d : Nat} {R : gR} {μ : gM} {l1 : Value} {st : List Value} {x : Nat}  : gc_W (gc_S d) cX0_takesAll 0 2 R 5 [.ref x, l1] st μ ↔ gc_W (gc_S d) cX0_takesAll 0 2 R 6 [.ref x, l1] (.ref x :: st) μ := us_aload_n dX0_takesAll_5 rfl
theorem u2_6 {d : Nat} {R : gR} {μ : gM} {L : List Value} {st : List Value} {o : Nat} (hk : gc_kd o = 0) : gc_W (gc_S d) cX0_takesAll 0 2 R 6 L (.ref o :: st) μ ↔ gc_W (gc_S d) cX0_takesAll 0 2 R 9 L (gc_fv o 1 μ :: st) μ := us_getf dX0_takesAll_6 gf_0_53 hk
theorem u2_9 {d : Nat} {R : gR} {μ : gM} {L : List Value} {st : List Value}   : gc_W (gc_S d) cX0_takesAll 0 2 R 9 L st μ ↔ gc_W (gc_S d) cX0_takesAll 0 2 R 10 L (.int 0 :: st) μ := us_iconst dX0_takesAll_9 ci_iconst_0
theorem u2_10 {d : Nat} {R : gR} {μ : gM} {L : List Value} {st : List Value} {o : Nat} {i : Int32} {q : Nat} (hk : gc_kd o = q) (hq : (Nat.ble 22 q && Nat.ble q 24) = true) : gc_W (gc_S d) cX0_takesAll 0 2 R 10 L (.int i :: .ref o :: st) μ ↔ (vp_in i (gc_al o) ∧ gc_W (gc_S d) cX0_takesAll 0 2 R 11 L (.ref (gc_ra o i.toNatClampNeg) :: st) μ) := us_aald dX0_takesAll_10 hk hq
theorem u2_11 {d : Nat} {R : gR} {μ : gM} {L : List Value} {st : List Value} {o : Nat} (hk : gc_kd o = 2) : gc_W (gc_S d) cX0_takesAll 0 2 R 11 L (.ref o :: st) μ ↔ gc_W (gc_S d) cX0_takesAll 0 2 R 14 L (gc_fv o 0 μ :: st) μ := us_getf dX0_takesAll_11 gf_0_76 hk
theorem u2_14 {d : Nat} {R : gR} {μ : gM} {l0 : Value} {st : List Value} {x : Nat}  : gc_W (gc_S d) cX0_takesAll 0 2 R 14 [l0, .ref x] st μ ↔ gc_W (gc_S d) cX0_takesAll 0 2 R 15 [l0, .ref x] (.ref x :: st) μ := us_aload_n dX0_takesAll_14 rfl
theorem u2_15 {d : Nat} {R : gR} {μ : gM} {L : List Value} {st : List Value} {o : Nat} (hk : gc_kd o = 0) : gc_W (gc_S d) cX0_takesAll 0 2 R 15 L (.ref o :: st) μ ↔ gc_W (gc_S d) cX0_takesAll 0 2 R 18 L (gc_fv o 1 μ :: st) μ := us_getf dX0_takesAll_15 gf_0_53 hk
theorem u2_18 {d : Nat} {R : gR} {μ : gM} {L : List Value} {st : List Value}   : gc_W (gc_S d) cX0_takesAll 0 2 R 18 L st μ ↔ gc_W (gc_S d) cX0_takesAll 0 2 R 19 L (.int 0 :: st) μ := us_iconst dX0_takesAll_18 ci_iconst_0
theorem u2_19 {d : Nat} {R : gR} {μ : gM} {L : List Value} {st : List Value} {o : Nat} {i : Int32} {q : Nat} (hk : gc_kd o = q) (hq : (Nat.ble 22 q && Nat.ble q 24) = true) : gc_W (gc_S d) cX0_takesAll 0 2 R 19 L (.int i :: .ref o :: st) μ ↔ (vp_in i (gc_al o) ∧ gc_W (gc_S d) cX0_takesAll 0 2 R 20 L (.ref (gc_ra o i.toNatClampNeg) :: st) μ) := us_aald dX0_takesAll_19 hk hq
theorem u2_20 {d : Nat} {R : gR} {μ : gM} {L : List Value} {st : List Value} {o : Nat} (hk : gc_kd o = 2) : gc_W (gc_S d) cX0_takesAll 0 2 R 20 L (.ref o :: st) μ ↔ gc_W (gc_S d) cX0_takesAll 0 2 R 23 L (gc_fv o 0 μ :: st) μ := us_getf dX0_takesAll_20 gf_0_76 hk
theorem u2_23 {d : Nat} {R : gR} {μ : gM} {L : List Value} {o : Nat} {a0 : Nat} (hk : gc_kd o = 7) : gc_W (gc_S d) cX0_takesAll 0 2 R 23 L [.ref a0, .ref o] μ ↔ gc_S d 1 [.ref o, .ref a0] μ (fun v μ' => gc_W (gc_S d) cX0_takesAll 0 2 R 26 L (v.toList ++ []) μ') := us_virt dX0_takesAll_23 gn_0_81 gc_0_81_7 hk rfl rfl rfl rfl rfl
theorem u2_26 {d : Nat} {R : gR} {μ : gM} {l1 : Value} {st : List Value} {x : Nat}  : gc_W (gc_S d) cX0_takesAll 0 2 R 26 [.ref x, l1] st μ ↔ gc_W (gc_S d) cX0_takesAll 0 2 R 27 [.ref x, l1] (.ref x :: st) μ := us_aload_n dX0_takesAll_26 rfl
theorem u2_27 {d : Nat} {R : gR} {μ : gM} {L : List Value} {st : List Value} {o : Nat} (hk : gc_kd o = 0) : gc_W (gc_S d) cX0_takesAll 0 2 R 27 L (.ref o :: st) μ ↔ gc_W (gc_S d) cX0_takesAll 0 2 R 30 L (gc_fv o 1 μ :: st) μ := us_getf dX0_takesAll_27 gf_0_53 hk
theorem u2_30 {d : Nat} {R : gR} {μ : gM} {L : List Value} {st : List Value}   : gc_W (gc_S d) cX0_takesAll 0 2 R 30 L st μ ↔ gc_W (gc_S d) cX0_takesAll 0 2 R 31 L (.int 1 :: st) μ := us_iconst dX0_takesAll_30 ci_iconst_1
theorem u2_31 {d : Nat} {R : gR} {μ : gM} {L : List Value} {st : List Value} {o : Nat} {i : Int32} {q : Nat} (hk : gc_kd o = q) (hq : (Nat.ble 22 q && Nat.ble q 24) = true) : gc_W (gc_S d) cX0_takesAll 0 2 R 31 L (.int i :: .ref o :: st) μ ↔ (vp_in i (gc_al o) ∧ gc_W (gc_S d) cX0_takesAll 0 2 R 32 L (.ref (gc_ra o i.toNatClampNeg) :: st) μ) := us_aald dX0_takesAll_31 hk hq
theorem u2_32 {d : Nat} {R : gR} {μ : gM} {L : List Value} {st : List Value} {o : Nat} (hk : gc_kd o = 2) : gc_W (gc_S d) cX0_takesAll 0 2 R 32 L (.ref o :: st) μ ↔ gc_W (gc_S d) cX0_takesAll 0 2 R 35 L (gc_fv o 0 μ :: st) μ := us_getf dX0_takesAll_32 gf_0_76 hk
theorem u2_35 {d : Nat} {R : gR} {μ : gM} {l0 : Value} {st : List Value} {x : Nat}  : gc_W (gc_S d) cX0_takesAll 0 2 R 35 [l0, .ref x] st μ ↔ gc_W (gc_S d) cX0_takesAll 0 2 R 36 [l0, .ref x] (.ref x :: st) μ := us_aload_n dX0_takesAll_35 rfl
theorem u2_36 {d : Nat} {R : gR} {μ : gM} {L : List Value} {st : List Value} {o : Nat} (hk : gc_kd o = 0) : gc_W (gc_S d) cX0_takesAll 0 2 R 36 L (.ref o :: st) μ ↔ gc_W (gc_S d) cX0_takesAll 0 2 R 39 L (gc_fv o 1 μ :: st) μ := us_getf dX0_takesAll_36 gf_0_53 hk
theorem u2_39 {d : Nat} {R : gR} {μ : gM} {L : List Value} {st : List Value}   : gc_W (gc_S d) cX0_takesAll 0 2 R 39 L st μ ↔ gc_W (gc_S d) cX0_takesAll 0 2 R 40 L (.int 1 :: st) μ := us_iconst dX0_takesAll_39 ci_iconst_1
theorem u2_40 {d : Nat} {R : gR} {μ : gM} {L : List Value} {st : List Value} {o : Nat} {i : Int32} {q : Nat} (hk : gc_kd o = q) (hq : (Nat.ble 22 q && Nat.ble q 24) = true) : gc_W (gc_S d) cX0_takesAll 0 2 R 40 L (.int i :: .ref o :: st) μ ↔ (vp_in i (gc_al o) ∧ gc_W (gc_S d) cX0_takesAll 0 2 R 41 L (.ref (gc_ra o i.toNatClampNeg) :: st) μ) := us_aald dX0_takesAll_40 hk hq
theorem u2_41 {d : Nat} {R : gR} {μ : gM} {L : List Value} {st : List Value} {o : Nat} (hk : gc_kd o = 2) : gc_W (gc_S d) cX0_takesAll 0 2 R 41 L (.ref o :: st) μ ↔ gc_W (gc_S d) cX0_takesAll 0 2 R 44 L (gc_fv o 0 μ :: st) μ := us_getf dX0_takesAll_41 gf_0_76 hk
theorem u2_44 {d : Nat} {R : gR} {μ : gM} {L : List Value} {o : Nat} {a0 : Nat} (hk : gc_kd o = 7) : gc_W (gc_S d) cX0_takesAll 0 2 R 44 L [.ref a0, .ref o] μ ↔ gc_S d 1 [.ref o, .ref a0] μ (fun v μ' => gc_W (gc_S d) cX0_takesAll 0 2 R 47 L (v.toList ++ []) μ') := us_virt dX0_takesAll_44 gn_0_81 gc_0_81_7 hk rfl rfl rfl rfl rfl
theorem u2_47 {d : Nat} {R : gR} {μ : gM} {l1 : Value} {st : List Value} {x : Nat}  : gc_W (gc_S d) cX0_takesAll 0 2 R 47 [.ref x, l1] st μ ↔ gc_W (gc_S d) cX0_takesAll 0 2 R 48 [.ref x, l1] (.ref x :: st) μ := us_aload_n dX0_takesAll_47 rfl
theorem u2_48 {d : Nat} {R : gR} {μ : gM} {L : List Value} {st : List Value} {o : Nat} (hk : gc_kd o = 0) : gc_W (gc_S d) cX0_takesAll 0 2 R 48 L (.ref o :: st) μ ↔ gc_W (gc_S d) cX0_takesAll 0 2 R 51 L (gc_fv o 9 μ :: st) μ := us_getf dX0_takesAll_48 gf_0_38 hk
theorem u2_51 {d : Nat} {R : gR} {μ : gM} {l0 : Value} {st : List Value} {x : Nat}  : gc_W (gc_S d) cX0_takesAll 0 2 R 51 [l0, .ref x] st μ ↔ gc_W (gc_S d) cX0_takesAll 0 2 R 52 [l0, .ref x] (.ref x :: st) μ := us_aload_n dX0_takesAll_51 rfl
theorem u2_52 {d : Nat} {R : gR} {μ : gM} {L : List Value} {st : List Value} {o : Nat} (hk : gc_kd o = 0) : gc_W (gc_S d) cX0_takesAll 0 2 R 52 L (.ref o :: st) μ ↔ gc_W (gc_S d) cX0_takesAll 0 2 R 55 L (gc_fv o 9 μ :: st) μ := us_getf dX0_takesAll_52 gf_0_38 hk
theorem u2_55 {d : Nat} {R : gR} {μ : gM} {L : List Value} {o : Nat} {a0 : Nat} (hk : gc_kd o = 7) : gc_W (gc_S d) cX0_takesAll 0 2 R 55 L [.ref a0, .ref o] μ ↔ gc_S d 1 [.ref o, .ref a0] μ (fun v μ' => gc_W (gc_S d) cX0_takesAll 0 2 R 58 L (v.toList ++ []) μ') := us_virt dX0_takesAll_55 gn_0_81 gc_0_81_7 hk rfl rfl rfl rfl rfl
theorem u2_58 {d : Nat} {R : gR} {μ : gM} {l1 : Value} {st : List Value} {x : Nat}  : gc_W (gc_S d) cX0_takesAll 0 2 R 58 [.ref x, l1] st μ ↔ gc_W (gc_S d) cX0_takesAll 0 2 R 59 [.ref x, l1] (.ref x :: st) μ := us_aload_n dX0_takesAll_58 rfl
theorem u2_59 {d : Nat} {R : gR} {μ : gM} {L : List Value} {st : List Value} {o : Nat} (hk : gc_kd o = 0) : gc_W (gc_S d) cX0_takesAll 0 2 R 59 L (.ref o :: st) μ ↔ gc_W (gc_S d) cX0_takesAll 0 2 R 62 L (gc_fv o 10 μ :: st) μ := us_getf dX0_takesAll_59 gf_0_42 hk
theorem u2_62 {d : Nat} {R : gR} {μ : gM} {l0 : Value} {st : List Value} {x : Nat}  : gc_W (gc_S d) cX0_takesAll 0 2 R 62 [l0, .ref x] st μ ↔ gc_W (gc_S d) cX0_takesAll 0 2 R 63 [l0, .ref x] (.ref x :: st) μ := us_aload_n dX0_takesAll_62 rfl
theorem u2_63 {d : Nat} {R : gR} {μ : gM} {L : List Value} {st : List Value} {o : Nat} (hk : gc_kd o = 0) : gc_W (gc_S d) cX0_takesAll 0 2 R 63 L (.ref o :: st) μ ↔ gc_W (gc_S d) cX0_takesAll 0 2 R 66 L (gc_fv o 10 μ :: st) μ := us_getf dX0_takesAll_63 gf_0_42 hk
theorem u2_66 {d : Nat} {R : gR} {μ : gM} {L : List Value} {o : Nat} {a0 : Nat} (hk : gc_kd o = 7) : gc_W (gc_S d) cX0_takesAll 0 2 R 66 L [.ref a0, .ref o] μ ↔ gc_S d 1 [.ref o, .ref a0] μ (fun v μ' => gc_W (gc_S d) cX0_takesAll 0 2 R 69 L (v.toList ++ []) μ') := us_virt dX0_takesAll_66 gn_0_81 gc_0_81_7 hk rfl rfl rfl rfl rfl
theorem u2_69 {d : Nat} {R : gR} {μ : gM} {l1 : Value} {st : List Value} {x : Nat}  : gc_W (gc_S d) cX0_takesAll 0 2 R 69 [.ref x, l1] st μ ↔ gc_W (gc_S d) cX0_takesAll 0 2 R 70 [.ref x, l1] (.ref x :: st) μ := us_aload_n dX0_takesAll_69 rfl
theorem u2_70 {d : Nat} {R : gR} {μ : gM} {l0 : Value} {st : List Value} {x : Nat}  : gc_W (gc_S d) cX0_takesAll 0 2 R 70 [l0, .ref x] st μ ↔ gc_W (gc_S d) cX0_takesAll 0 2 R 71 [l0, .ref x] (.ref x :: st) μ := us_aload_n dX0_takesAll_70 rfl
theorem u2_71 {d : Nat} {R : gR} {μ : gM} {L : List Value} {st : List Value} {o : Nat} (hk : gc_kd o = 0) : gc_W (gc_S d) cX0_takesAll 0 2 R 71 L (.ref o :: st) μ ↔ gc_W (gc_S d) cX0_takesAll 0 2 R 74 L (gc_fv o 14 μ :: st) μ := us_getf dX0_takesAll_71 gf_0_45 hk
theorem u2_74 {d : Nat} {R : gR} {μ : gM} {L : List Value} {st : List Value} {o : Nat} {x : Int32} (hk : gc_kd o = 0) (hj : gc_fk o 14 = 0) : gc_W (gc_S d) cX0_takesAll 0 2 R 74 L (.int x :: .ref o :: st) μ ↔ gc_W (gc_S d) cX0_takesAll 0 2 R 77 L st (gc_up μ o 14 x) := us_putf dX0_takesAll_74 gf_0_45 hk hj rfl
theorem u2_77 {d : Nat} {R : gR} {μ : gM} {L : List Value}   : gc_W (gc_S d) cX0_takesAll 0 2 R 77 L [] μ ↔ R none μ := us_vret dX0_takesAll_77 rfl
theorem s2 {d : Nat} {R : gR} {μ : gM} {o : Nat} {a0 : Nat} : gc_S (d + 1) 2 [.ref o, .ref a0] μ R ↔ gc_W (gc_S d) cX0_takesAll 0 2 R 0 [.ref o, .ref a0] [] μ := us_call (gm_2) rfl rfl
theorem dX0_kindOf_0 : decode cX0_kindOf 0 = .ok (.aload_n 0, 1) := by decide +kernel
theorem dX0_kindOf_1 : decode cX0_kindOf 1 = .ok (.getfield 49, 3) := by decide +kernel
theorem dX0_kindOf_4 : decode cX0_kindOf 4 = .ok (.aload_n 0, 1) := by decide +kernel
theorem dX0_kindOf_5 : decode cX0_kindOf 5 = .ok (.getfield 21, 3) := by decide +kernel
theorem dX0_kindOf_8 : decode cX0_kindOf 8 = .ok (.iload_n 1, 1) := by decide +kernel
theorem dX0_kindOf_9 : decode cX0_kindOf 9 = .ok (.iaload, 1) := by decide +kernel
theorem dX0_kindOf_10 : decode cX0_kindOf 10 = .ok (.aaload, 1) := by decide +kernel
theorem dX0_kindOf_11 : decode cX0_kindOf 11 = .ok (.areturn, 1) := by decide +kernel
theorem u3_0 {d : Nat} {R : gR} {μ : gM} {l1 : Value} {st : List Value} {x : Nat}  : gc_W (gc_S d) cX0_kindOf 0 3 R 0 [.ref x, l1] st μ ↔ gc_W (gc_S d) cX0_kindOf 0 3 R 1 [.ref x, l1] (.ref x :: st) μ := us_aload_n dX0_kindOf_0 rfl
theorem u3_1 {d : Nat} {R : gR} {μ : gM} {L : List Value} {st : List Value} {o : Nat} (hk : gc_kd o = 0) : gc_W (gc_S d) cX0_kindOf 0 3 R 1 L (.ref o :: st) μ ↔ gc_W (gc_S d) cX0_kindOf 0 3 R 4 L (gc_fv o 0 μ :: st) μ := us_getf dX0_kindOf_1 gf_0_49 hk
theorem u3_4 {d : Nat} {R : gR} {μ : gM} {l1 : Value} {st : List Value} {x : Nat}  : gc_W (gc_S d) cX0_kindOf 0 3 R 4 [.ref x, l1] st μ ↔ gc_W (gc_S d) cX0_kindOf 0 3 R 5 [.ref x, l1] (.ref x :: st) μ := us_aload_n dX0_kindOf_4 rfl
theorem u3_5 {d : Nat} {R : gR} {μ : gM} {L : List Value} {st : List Value} {o : Nat} (hk : gc_kd o = 0) : gc_W (gc_S d) cX0_kindOf 0 3 R 5 L (.ref o :: st) μ ↔ gc_W (gc_S d) cX0_kindOf 0 3 R 8 L (gc_fv o 5 μ :: st) μ := us_getf dX0_kindOf_5 gf_0_21 hk
theorem u3_8 {d : Nat} {R : gR} {μ : gM} {l0 : Value} {st : List Value} {x : Int32}  : gc_W (gc_S d) cX0_kindOf 0 3 R 8 [l0, .int x] st μ ↔ gc_W (gc_S d) cX0_kindOf 0 3 R 9 [l0, .int x] (.int x :: st) μ := us_iload_n dX0_kindOf_8 rfl
theorem u3_9 {d : Nat} {R : gR} {μ : gM} {L : List Value} {st : List Value} {o : Nat} {i : Int32} (hk : gc_kd o = 20) : gc_W (gc_S d) cX0_kindOf 0 3 R 9 L (.int i :: .ref o :: st) μ ↔ (vp_in i (gc_al o) ∧ gc_W (gc_S d) cX0_kindOf 0 3 R 10 L (.int (μ o i.toNatClampNeg) :: st) μ) := us_iald dX0_kindOf_9 hk
theorem u3_10 {d : Nat} {R : gR} {μ : gM} {L : List Value} {st : List Value} {o : Nat} {i : Int32} {q : Nat} (hk : gc_kd o = q) (hq : (Nat.ble 22 q && Nat.ble q 24) = true) : gc_W (gc_S d) cX0_kindOf 0 3 R 10 L (.int i :: .ref o :: st) μ ↔ (vp_in i (gc_al o) ∧ gc_W (gc_S d) cX0_kindOf 0 3 R 11 L (.ref (gc_ra o i.toNatClampNeg) :: st) μ) := us_aald dX0_kindOf_10 hk hq
theorem u3_11 {d : Nat} {R : gR} {μ : gM} {L : List Value} {v : Nat}  : gc_W (gc_S d) cX0_kindOf 0 3 R 11 L [.ref v] μ ↔ R (some (.ref v)) μ := us_aret dX0_kindOf_11 rfl
theorem s3 {d : Nat} {R : gR} {μ : gM} {o : Nat} {a0 : Int32} : gc_S (d + 1) 3 [.ref o, .int a0] μ R ↔ gc_W (gc_S d) cX0_kindOf 0 3 R 0 [.ref o, .int a0] [] μ := us_call (gm_3) rfl rfl
theorem dX0_whole_0 : decode cX0_whole 0 = .ok (.ldc 84, 2) := by decide +kernel
theorem dX0_whole_2 : decode cX0_whole 2 = .ok (.aload_n 0, 1) := by decide +kernel
theorem dX0_whole_3 : decode cX0_whole 3 = .ok (.getfield 63, 3) := by decide +kernel
theorem dX0_whole_6 : decode cX0_whole 6 = .ok (.iconst (-1), 1) := by decide +kernel
theorem dX0_whole_7 : decode cX0_whole 7 = .ok (.ixor, 1) := by decide +kernel
theorem dX0_whole_8 : decode cX0_whole 8 = .ok (.iand, 1) := by decide +kernel
theorem dX0_whole_9 : decode cX0_whole 9 = .ok (.ireturn, 1) := by decide +kernel
theorem u4_0 {d : Nat} {R : gR} {μ : gM} {L : List Value} {st : List Value}   : gc_W (gc_S d) cX0_whole 0 0 R 0 L st μ ↔ gc_W (gc_S d) cX0_whole 0 0 R 2 L (.int 65535 :: st) μ := us_ldc dX0_whole_0 gk_0_84
theorem u4_2 {d : Nat} {R : gR} {μ : gM} {st : List Value} {x : Nat}  : gc_W (gc_S d) cX0_whole 0 0 R 2 [.ref x] st μ ↔ gc_W (gc_S d) cX0_whole 0 0 R 3 [.ref x] (.ref x :: st) μ := us_aload_n dX0_whole_2 rfl
theorem u4_3 {d : Nat} {R : gR} {μ : gM} {L : List Value} {st : List Value} {o : Nat} (hk : gc_kd o = 0) : gc_W (gc_S d) cX0_whole 0 0 R 3 L (.ref o :: st) μ ↔ gc_W (gc_S d) cX0_whole 0 0 R 6 L (gc_fv o 11 μ :: st) μ := us_getf dX0_whole_3 gf_0_63 hk
theorem u4_6 {d : Nat} {R : gR} {μ : gM} {L : List Value} {st : List Value}   : gc_W (gc_S d) cX0_whole 0 0 R 6 L st μ ↔ gc_W (gc_S d) cX0_whole 0 0 R 7 L (.int (-1) :: st) μ := us_iconst dX0_whole_6 ci_iconst_m1
theorem u4_7 {d : Nat} {R : gR} {μ : gM} {L : List Value} {st : List Value} {x y : Int32}  : gc_W (gc_S d) cX0_whole 0 0 R 7 L (.int y :: .int x :: st) μ ↔ gc_W (gc_S d) cX0_whole 0 0 R 8 L (.int (x ^^^ y) :: st) μ := us_ixor dX0_whole_7
theorem u4_8 {d : Nat} {R : gR} {μ : gM} {L : List Value} {st : List Value} {x y : Int32}  : gc_W (gc_S d) cX0_whole 0 0 R 8 L (.int y :: .int x :: st) μ ↔ gc_W (gc_S d) cX0_whole 0 0 R 9 L (.int (x &&& y) :: st) μ := us_iand dX0_whole_8
theorem u4_9 {d : Nat} {R : gR} {μ : gM} {L : List Value} {v : Int32}  : gc_W (gc_S d) cX0_whole 0 0 R 9 L [.int v] μ ↔ R (some (.int v)) μ := us_iret dX0_whole_9 rfl
theorem s4 {d : Nat} {R : gR} {μ : gM} {o : Nat} : gc_S (d + 1) 4 [.ref o] μ R ↔ gc_W (gc_S d) cX0_whole 0 0 R 0 [.ref o] [] μ := us_call (gm_4) rfl rfl
theorem dX0_wetCells_0 : decode cX0_wetCells 0 = .ok (.iconst 0, 1) := by decide +kernel
theorem dX0_wetCells_1 : decode cX0_wetCells 1 = .ok (.istore_n 1, 1) := by decide +kernel
theorem dX0_wetCells_2 : decode cX0_wetCells 2 = .ok (.iconst 0, 1) := by decide +kernel
theorem dX0_wetCells_3 : decode cX0_wetCells 3 = .ok (.istore_n 2, 1) := by decide +kernel
theorem dX0_wetCells_4 : decode cX0_wetCells 4 = .ok (.iload_n 2, 1) := by decide +kernel
theorem dX0_wetCells_5 : decode cX0_wetCells 5 = .ok (.bipush 16, 2) := by decide +kernel
theorem dX0_wetCells_7 : decode cX0_wetCells 7 = .ok (.if_icmp .ge 24, 3) := by decide +kernel
theorem dX0_wetCells_10 : decode cX0_wetCells 10 = .ok (.aload_n 0, 1) := by decide +kernel
theorem dX0_wetCells_11 : decode cX0_wetCells 11 = .ok (.getfield 9, 3) := by decide +kernel
theorem dX0_wetCells_14 : decode cX0_wetCells 14 = .ok (.iload_n 2, 1) := by decide +kernel
theorem dX0_wetCells_15 : decode cX0_wetCells 15 = .ok (.iaload, 1) := by decide +kernel
theorem dX0_wetCells_16 : decode cX0_wetCells 16 = .ok (.ifCond .le 9, 3) := by decide +kernel
theorem dX0_wetCells_19 : decode cX0_wetCells 19 = .ok (.iload_n 1, 1) := by decide +kernel
theorem dX0_wetCells_20 : decode cX0_wetCells 20 = .ok (.iconst 1, 1) := by decide +kernel
theorem dX0_wetCells_21 : decode cX0_wetCells 21 = .ok (.iload_n 2, 1) := by decide +kernel
theorem dX0_wetCells_22 : decode cX0_wetCells 22 = .ok (.ishl, 1) := by decide +kernel
theorem dX0_wetCells_23 : decode cX0_wetCells 23 = .ok (.ior, 1) := by decide +kernel
theorem dX0_wetCells_24 : decode cX0_wetCells 24 = .ok (.istore_n 1, 1) := by decide +kernel
theorem dX0_wetCells_25 : decode cX0_wetCells 25 = .ok (.iinc 2 1, 3) := by decide +kernel
theorem dX0_wetCells_28 : decode cX0_wetCells 28 = .ok (.goto (-24), 3) := by decide +kernel
theorem dX0_wetCells_31 : decode cX0_wetCells 31 = .ok (.iload_n 1, 1) := by decide +kernel
theorem dX0_wetCells_32 : decode cX0_wetCells 32 = .ok (.ireturn, 1) := by decide +kernel
theorem u5_0 {d : Nat} {R : gR} {μ : gM} {L : List Value} {st : List Value}   : gc_W (gc_S d) cX0_wetCells 0 0 R 0 L st μ ↔ gc_W (gc_S d) cX0_wetCells 0 0 R 1 L (.int 0 :: st) μ := us_iconst dX0_wetCells_0 ci_iconst_0
theorem u5_1 {d : Nat} {R : gR} {μ : gM} {l0 l1 l2 : Value} {st : List Value} {x : Int32} (hs : gc_sk l1 = true) : gc_W (gc_S d) cX0_wetCells 0 0 R 1 [l0, l1, l2] (.int x :: st) μ ↔ gc_W (gc_S d) cX0_wetCells 0 0 R 2 [l0, .int x, l2] st μ := us_istore_n dX0_wetCells_1 rfl hs
theorem u5_2 {d : Nat} {R : gR} {μ : gM} {L : List Value} {st : List Value}   : gc_W (gc_S d) cX0_wetCells 0 0 R 2 L st μ ↔ gc_W (gc_S d) cX0_wetCells 0 0 R 3 L (.int 0 :: st) μ := us_iconst dX0_wetCells_2 ci_iconst_0
theorem u5_3 {d : Nat} {R : gR} {μ : gM} {l0 l1 l2 : Value} {st : List Value} {x : Int32} (hs : gc_sk l2 = true) : gc_W (gc_S d) cX0_wetCells 0 0 R 3 [l0, l1, l2] (.int x :: st) μ ↔ gc_W (gc_S d) cX0_wetCells 0 0 R 4 [l0, l1, .int x] st μ := us_istore_n dX0_wetCells_3 rfl hs
theorem u5_4 {d : Nat} {R : gR} {μ : gM} {l0 l1 : Value} {st : List Value} {x : Int32}  : gc_W (gc_S d) cX0_wetCells 0 0 R 4 [l0, l1, .int x] st μ ↔ gc_W (gc_S d) cX0_wetCells 0 0 R 5 [l0, l1, .int x] (.int x :: st) μ := us_iload_n dX0_wetCells_4 rfl
theorem u5_5 {d : Nat} {R : gR} {μ : gM} {L : List Value} {st : List Value}   : gc_W (gc_S d) cX0_wetCells 0 0 R 5 L st μ ↔ gc_W (gc_S d) cX0_wetCells 0 0 R 7 L (.int 16 :: st) μ := us_bipush dX0_wetCells_5 ci_bipush_16
theorem u5_7 {d : Nat} {R : gR} {μ : gM} {L : List Value} {st : List Value} {x y : Int32}  : gc_W (gc_S d) cX0_wetCells 0 0 R 7 L (.int y :: .int x :: st) μ ↔ if y ≤ x then gc_W (gc_S d) cX0_wetCells 0 0 R 31 L st μ else gc_W (gc_S d) cX0_wetCells 0 0 R 10 L st μ := us_icge dX0_wetCells_7 rfl
theorem u5_10 {d : Nat} {R : gR} {μ : gM} {l1 l2 : Value} {st : List Value} {x : Nat}  : gc_W (gc_S d) cX0_wetCells 0 0 R 10 [.ref x, l1, l2] st μ ↔ gc_W (gc_S d) cX0_wetCells 0 0 R 11 [.ref x, l1, l2] (.ref x :: st) μ := us_aload_n dX0_wetCells_10 rfl
theorem u5_11 {d : Nat} {R : gR} {μ : gM} {L : List Value} {st : List Value} {o : Nat} (hk : gc_kd o = 0) : gc_W (gc_S d) cX0_wetCells 0 0 R 11 L (.ref o :: st) μ ↔ gc_W (gc_S d) cX0_wetCells 0 0 R 14 L (gc_fv o 2 μ :: st) μ := us_getf dX0_wetCells_11 gf_0_9 hk
theorem u5_14 {d : Nat} {R : gR} {μ : gM} {l0 l1 : Value} {st : List Value} {x : Int32}  : gc_W (gc_S d) cX0_wetCells 0 0 R 14 [l0, l1, .int x] st μ ↔ gc_W (gc_S d) cX0_wetCells 0 0 R 15 [l0, l1, .int x] (.int x :: st) μ := us_iload_n dX0_wetCells_14 rfl
theorem u5_15 {d : Nat} {R : gR} {μ : gM} {L : List Value} {st : List Value} {o : Nat} {i : Int32} (hk : gc_kd o = 20) : gc_W (gc_S d) cX0_wetCells 0 0 R 15 L (.int i :: .ref o :: st) μ ↔ (vp_in i (gc_al o) ∧ gc_W (gc_S d) cX0_wetCells 0 0 R 16 L (.int (μ o i.toNatClampNeg) :: st) μ) := us_iald dX0_wetCells_15 hk
theorem u5_16 {d : Nat} {R : gR} {μ : gM} {L : List Value} {st : List Value} {x : Int32}  : gc_W (gc_S d) cX0_wetCells 0 0 R 16 L (.int x :: st) μ ↔ if x ≤ 0 then gc_W (gc_S d) cX0_wetCells 0 0 R 25 L st μ else gc_W (gc_S d) cX0_wetCells 0 0 R 19 L st μ := us_ifle dX0_wetCells_16 rfl
theorem u5_19 {d : Nat} {R : gR} {μ : gM} {l0 l2 : Value} {st : List Value} {x : Int32}  : gc_W (gc_S d) cX0_wetCells 0 0 R 19 [l0, .int x, l2] st μ ↔ gc_W (gc_S d) cX0_wetCells 0 0 R 20 [l0, .int x, l2] (.int x :: st) μ := us_iload_n dX0_wetCells_19 rfl
theorem u5_20 {d : Nat} {R : gR} {μ : gM} {L : List Value} {st : List Value}   : gc_W (gc_S d) cX0_wetCells 0 0 R 20 L st μ ↔ gc_W (gc_S d) cX0_wetCells 0 0 R 21 L (.int 1 :: st) μ := us_iconst dX0_wetCells_20 ci_iconst_1
theorem u5_21 {d : Nat} {R : gR} {μ : gM} {l0 l1 : Value} {st : List Value} {x : Int32}  : gc_W (gc_S d) cX0_wetCells 0 0 R 21 [l0, l1, .int x] st μ ↔ gc_W (gc_S d) cX0_wetCells 0 0 R 22 [l0, l1, .int x] (.int x :: st) μ := us_iload_n dX0_wetCells_21 rfl
theorem u5_22 {d : Nat} {R : gR} {μ : gM} {L : List Value} {st : List Value} {x y : Int32}  : gc_W (gc_S d) cX0_wetCells 0 0 R 22 L (.int y :: .int x :: st) μ ↔ gc_W (gc_S d) cX0_wetCells 0 0 R 23 L (.int (x <<< (y &&& 31)) :: st) μ := us_ishl dX0_wetCells_22
theorem u5_23 {d : Nat} {R : gR} {μ : gM} {L : List Value} {st : List Value} {x y : Int32}  : gc_W (gc_S d) cX0_wetCells 0 0 R 23 L (.int y :: .int x :: st) μ ↔ gc_W (gc_S d) cX0_wetCells 0 0 R 24 L (.int (x ||| y) :: st) μ := us_ior dX0_wetCells_23
theorem u5_24 {d : Nat} {R : gR} {μ : gM} {l0 l1 l2 : Value} {st : List Value} {x : Int32} (hs : gc_sk l1 = true) : gc_W (gc_S d) cX0_wetCells 0 0 R 24 [l0, l1, l2] (.int x :: st) μ ↔ gc_W (gc_S d) cX0_wetCells 0 0 R 25 [l0, .int x, l2] st μ := us_istore_n dX0_wetCells_24 rfl hs
theorem u5_25 {d : Nat} {R : gR} {μ : gM} {l0 l1 : Value} {st : List Value} {x : Int32}  : gc_W (gc_S d) cX0_wetCells 0 0 R 25 [l0, l1, .int x] st μ ↔ gc_W (gc_S d) cX0_wetCells 0 0 R 28 [l0, l1, .int (x + 1)] st μ := us_iinc dX0_wetCells_25 rfl ci_iinc_1
theorem u5_28 {d : Nat} {R : gR} {μ : gM} {L : List Value} {st : List Value}  : gc_W (gc_S d) cX0_wetCells 0 0 R 28 L st μ ↔ gc_W (gc_S d) cX0_wetCells 0 0 R 4 L st μ := us_goto dX0_wetCells_28 rfl
theorem u5_31 {d : Nat} {R : gR} {μ : gM} {l0 l2 : Value} {st : List Value} {x : Int32}  : gc_W (gc_S d) cX0_wetCells 0 0 R 31 [l0, .int x, l2] st μ ↔ gc_W (gc_S d) cX0_wetCells 0 0 R 32 [l0, .int x, l2] (.int x :: st) μ := us_iload_n dX0_wetCells_31 rfl
theorem u5_32 {d : Nat} {R : gR} {μ : gM} {L : List Value} {v : Int32}  : gc_W (gc_S d) cX0_wetCells 0 0 R 32 L [.int v] μ ↔ R (some (.int v)) μ := us_iret dX0_wetCells_32 rfl
theorem s5 {d : Nat} {R : gR} {μ : gM} {o : Nat} : gc_S (d + 1) 5 [.ref o] μ R ↔ gc_W (gc_S d) cX0_wetCells 0 0 R 0 [.ref o, .retAddr 0, .retAddr 0] [] μ := us_call (gm_5) rfl rfl
theorem dX0_tornOrDry_0 : decode cX0_tornOrDry 0 = .ok (.aload_n 0, 1) := by decide +kernel
theorem dX0_tornOrDry_1 : decode cX0_tornOrDry 1 = .ok (.getfield 63, 3) := by decide +kernel
theorem dX0_tornOrDry_4 : decode cX0_tornOrDry 4 = .ok (.ldc 84, 2) := by decide +kernel
theorem dX0_tornOrDry_6 : decode cX0_tornOrDry 6 = .ok (.aload_n 0, 1) := by decide +kernel
theorem dX0_tornOrDry_7 : decode cX0_tornOrDry 7 = .ok (.invokevirtual 85, 3) := by decide +kernel
theorem dX0_tornOrDry_10 : decode cX0_tornOrDry 10 = .ok (.iconst (-1), 1) := by decide +kernel
theorem dX0_tornOrDry_11 : decode cX0_tornOrDry 11 = .ok (.ixor, 1) := by decide +kernel
theorem dX0_tornOrDry_12 : decode cX0_tornOrDry 12 = .ok (.iand, 1) := by decide +kernel
theorem dX0_tornOrDry_13 : decode cX0_tornOrDry 13 = .ok (.ior, 1) := by decide +kernel
theorem dX0_tornOrDry_14 : decode cX0_tornOrDry 14 = .ok (.ireturn, 1) := by decide +kernel
theorem u6_0 {d : Nat} {R : gR} {μ : gM} {st : List Value} {x : Nat}  : gc_W (gc_S d) cX0_tornOrDry 0 0 R 0 [.ref x] st μ ↔ gc_W (gc_S d) cX0_tornOrDry 0 0 R 1 [.ref x] (.ref x :: st) μ := us_aload_n dX0_tornOrDry_0 rfl
theorem u6_1 {d : Nat} {R : gR} {μ : gM} {L : List Value} {st : List Value} {o : Nat} (hk : gc_kd o = 0) : gc_W (gc_S d) cX0_tornOrDry 0 0 R 1 L (.ref o :: st) μ ↔ gc_W (gc_S d) cX0_tornOrDry 0 0 R 4 L (gc_fv o 11 μ :: st) μ := us_getf dX0_tornOrDry_1 gf_0_63 hk
theorem u6_4 {d : Nat} {R : gR} {μ : gM} {L : List Value} {st : List Value}   : gc_W (gc_S d) cX0_tornOrDry 0 0 R 4 L st μ ↔ gc_W (gc_S d) cX0_tornOrDry 0 0 R 6 L (.int 65535 :: st) μ := us_ldc dX0_tornOrDry_4 gk_0_84
theorem u6_6 {d : Nat} {R : gR} {μ : gM} {st : List Value} {x : Nat}  : gc_W (gc_S d) cX0_tornOrDry 0 0 R 6 [.ref x] st μ ↔ gc_W (gc_S d) cX0_tornOrDry 0 0 R 7 [.ref x] (.ref x :: st) μ := us_aload_n dX0_tornOrDry_6 rfl
theorem u6_7 {d : Nat} {R : gR} {μ : gM} {L : List Value} {o : Nat} {s0 s1 : Value} (hk : gc_kd o = 0) : gc_W (gc_S d) cX0_tornOrDry 0 0 R 7 L [.ref o, s0, s1] μ ↔ gc_S d 5 [.ref o] μ (fun v μ' => gc_W (gc_S d) cX0_tornOrDry 0 0 R 10 L (v.toList ++ [s0, s1]) μ') := us_virt dX0_tornOrDry_7 gn_0_85 gc_0_85_0 hk rfl rfl rfl rfl rfl
theorem u6_10 {d : Nat} {R : gR} {μ : gM} {L : List Value} {st : List Value}   : gc_W (gc_S d) cX0_tornOrDry 0 0 R 10 L st μ ↔ gc_W (gc_S d) cX0_tornOrDry 0 0 R 11 L (.int (-1) :: st) μ := us_iconst dX0_tornOrDry_10 ci_iconst_m1
theorem u6_11 {d : Nat} {R : gR} {μ : gM} {L : List Value} {st : List Value} {x y : Int32}  : gc_W (gc_S d) cX0_tornOrDry 0 0 R 11 L (.int y :: .int x :: st) μ ↔ gc_W (gc_S d) cX0_tornOrDry 0 0 R 12 L (.int (x ^^^ y) :: st) μ := us_ixor dX0_tornOrDry_11
theorem u6_12 {d : Nat} {R : gR} {μ : gM} {L : List Value} {st : List Value} {x y : Int32}  : gc_W (gc_S d) cX0_tornOrDry 0 0 R 12 L (.int y :: .int x :: st) μ ↔ gc_W (gc_S d) cX0_tornOrDry 0 0 R 13 L (.int (x &&& y) :: st) μ := us_iand dX0_tornOrDry_12
theorem u6_13 {d : Nat} {R : gR} {μ : gM} {L : List Value} {st : List Value} {x y : Int32}  : gc_W (gc_S d) cX0_tornOrDry 0 0 R 13 L (.int y :: .int x :: st) μ ↔ gc_W (gc_S d) cX0_tornOrDry 0 0 R 14 L (.int (x ||| y) :: st) μ := us_ior dX0_tornOrDry_13
theorem u6_14 {d : Nat} {R : gR} {μ : gM} {L : List Value} {v : Int32}  : gc_W (gc_S d) cX0_tornOrDry 0 0 R 14 L [.int v] μ ↔ R (some (.int v)) μ := us_iret dX0_tornOrDry_14 rfl
theorem s6 {d : Nat} {R : gR} {μ : gM} {o : Nat} : gc_S (d + 1) 6 [.ref o] μ R ↔ gc_W (gc_S d) cX0_tornOrDry 0 0 R 0 [.ref o] [] μ := us_call (gm_6) rfl rfl
theorem dX0_thoseAt_0 : decode cX0_thoseAt 0 = .ok (.iconst 0, 1) := by decide +kernel
theorem dX0_thoseAt_1 : decode cX0_thoseAt 1 = .ok (.istore_n 2, 1) := by decide +kernel
theorem dX0_thoseAt_2 : decode cX0_thoseAt 2 = .ok (.iconst 0, 1) := by decide +kernel
theorem dX0_thoseAt_3 : decode cX0_thoseAt 3 = .ok (.istore_n 3, 1) := by decide +kernel
theorem dX0_thoseAt_4 : decode cX0_thoseAt 4 = .ok (.iload_n 3, 1) := by decide +kernel
theorem dX0_thoseAt_5 : decode cX0_thoseAt 5 = .ok (.aload_n 0, 1) := by decide +kernel
theorem dX0_thoseAt_6 : decode cX0_thoseAt 6 = .ok (.getfield 69, 3) := by decide +kernel
theorem dX0_thoseAt_9 : decode cX0_thoseAt 9 = .ok (.if_icmp .ge 25, 3) := by decide +kernel
theorem dX0_thoseAt_12 : decode cX0_thoseAt 12 = .ok (.aload_n 0, 1) := by decide +kernel
theorem dX0_thoseAt_13 : decode cX0_thoseAt 13 = .ok (.getfield 30, 3) := by decide +kernel
theorem dX0_thoseAt_16 : decode cX0_thoseAt 16 = .ok (.iload_n 3, 1) := by decide +kernel
theorem dX0_thoseAt_17 : decode cX0_thoseAt 17 = .ok (.iaload, 1) := by decide +kernel
theorem dX0_thoseAt_18 : decode cX0_thoseAt 18 = .ok (.iload_n 1, 1) := by decide +kernel
theorem dX0_thoseAt_19 : decode cX0_thoseAt 19 = .ok (.if_icmp .ne 9, 3) := by decide +kernel
theorem dX0_thoseAt_22 : decode cX0_thoseAt 22 = .ok (.iload_n 2, 1) := by decide +kernel
theorem dX0_thoseAt_23 : decode cX0_thoseAt 23 = .ok (.iconst 1, 1) := by decide +kernel
theorem dX0_thoseAt_24 : decode cX0_thoseAt 24 = .ok (.iload_n 3, 1) := by decide +kernel
theorem dX0_thoseAt_25 : decode cX0_thoseAt 25 = .ok (.ishl, 1) := by decide +kernel
theorem dX0_thoseAt_26 : decode cX0_thoseAt 26 = .ok (.ior, 1) := by decide +kernel
theorem dX0_thoseAt_27 : decode cX0_thoseAt 27 = .ok (.istore_n 2, 1) := by decide +kernel
theorem dX0_thoseAt_28 : decode cX0_thoseAt 28 = .ok (.iinc 3 1, 3) := by decide +kernel
theorem dX0_thoseAt_31 : decode cX0_thoseAt 31 = .ok (.goto (-27), 3) := by decide +kernel
theorem dX0_thoseAt_34 : decode cX0_thoseAt 34 = .ok (.iload_n 2, 1) := by decide +kernel
theorem dX0_thoseAt_35 : decode cX0_thoseAt 35 = .ok (.ireturn, 1) := by decide +kernel
theorem u7_0 {d : Nat} {R : gR} {μ : gM} {L : List Value} {st : List Value}   : gc_W (gc_S d) cX0_thoseAt 0 0 R 0 L st μ ↔ gc_W (gc_S d) cX0_thoseAt 0 0 R 1 L (.int 0 :: st) μ := us_iconst dX0_thoseAt_0 ci_iconst_0
theorem u7_1 {d : Nat} {R : gR} {μ : gM} {l0 l1 l2 l3 : Value} {st : List Value} {x : Int32} (hs : gc_sk l2 = true) : gc_W (gc_S d) cX0_thoseAt 0 0 R 1 [l0, l1, l2, l3] (.int x :: st) μ ↔ gc_W (gc_S d) cX0_thoseAt 0 0 R 2 [l0, l1, .int x, l3] st μ := us_istore_n dX0_thoseAt_1 rfl hs
theorem u7_2 {d : Nat} {R : gR} {μ : gM} {L : List Value} {st : List Value}   : gc_W (gc_S d) cX0_thoseAt 0 0 R 2 L st μ ↔ gc_W (gc_S d) cX0_thoseAt 0 0 R 3 L (.int 0 :: st) μ := us_iconst dX0_thoseAt_2 ci_iconst_0
theorem u7_3 {d : Nat} {R : gR} {μ : gM} {l0 l1 l2 l3 : Value} {st : List Value} {x : Int32} (hs : gc_sk l3 = true) : gc_W (gc_S d) cX0_thoseAt 0 0 R 3 [l0, l1, l2, l3] (.int x :: st) μ ↔ gc_W (gc_S d) cX0_thoseAt 0 0 R 4 [l0, l1, l2, .int x] st μ := us_istore_n dX0_thoseAt_3 rfl hs
theorem u7_4 {d : Nat} {R : gR} {μ : gM} {l0 l1 l2 : Value} {st : List Value} {x : Int32}  : gc_W (gc_S d) cX0_thoseAt 0 0 R 4 [l0, l1, l2, .int x] st μ ↔ gc_W (gc_S d) cX0_thoseAt 0 0 R 5 [l0, l1, l2, .int x] (.int x :: st) μ := us_iload_n dX0_thoseAt_4 rfl
theorem u7_5 {d : Nat} {R : gR} {μ : gM} {l1 l2 l3 : Value} {st : List Value} {x : Nat}  : gc_W (gc_S d) cX0_thoseAt 0 0 R 5 [.ref x, l1, l2, l3] st μ ↔ gc_W (gc_S d) cX0_thoseAt 0 0 R 6 [.ref x, l1, l2, l3] (.ref x :: st) μ := us_aload_n dX0_thoseAt_5 rfl
theorem u7_6 {d : Nat} {R : gR} {μ : gM} {L : List Value} {st : List Value} {o : Nat} (hk : gc_kd o = 0) : gc_W (gc_S d) cX0_thoseAt 0 0 R 6 L (.ref o :: st) μ ↔ gc_W (gc_S d) cX0_thoseAt 0 0 R 9 L (gc_fv o 13 μ :: st) μ := us_getf dX0_thoseAt_6 gf_0_69 hk
theorem u7_9 {d : Nat} {R : gR} {μ : gM} {L : List Value} {st : List Value} {x y : Int32}  : gc_W (gc_S d) cX0_thoseAt 0 0 R 9 L (.int y :: .int x :: st) μ ↔ if y ≤ x then gc_W (gc_S d) cX0_thoseAt 0 0 R 34 L st μ else gc_W (gc_S d) cX0_thoseAt 0 0 R 12 L st μ := us_icge dX0_thoseAt_9 rfl
theorem u7_12 {d : Nat} {R : gR} {μ : gM} {l1 l2 l3 : Value} {st : List Value} {x : Nat}  : gc_W (gc_S d) cX0_thoseAt 0 0 R 12 [.ref x, l1, l2, l3] st μ ↔ gc_W (gc_S d) cX0_thoseAt 0 0 R 13 [.ref x, l1, l2, l3] (.ref x :: st) μ := us_aload_n dX0_thoseAt_12 rfl
theorem u7_13 {d : Nat} {R : gR} {μ : gM} {L : List Value} {st : List Value} {o : Nat} (hk : gc_kd o = 0) : gc_W (gc_S d) cX0_thoseAt 0 0 R 13 L (.ref o :: st) μ ↔ gc_W (gc_S d) cX0_thoseAt 0 0 R 16 L (gc_fv o 8 μ :: st) μ := us_getf dX0_thoseAt_13 gf_0_30 hk
theorem u7_16 {d : Nat} {R : gR} {μ : gM} {l0 l1 l2 : Value} {st : List Value} {x : Int32}  : gc_W (gc_S d) cX0_thoseAt 0 0 R 16 [l0, l1, l2, .int x] st μ ↔ gc_W (gc_S d) cX0_thoseAt 0 0 R 17 [l0, l1, l2, .int x] (.int x :: st) μ := us_iload_n dX0_thoseAt_16 rfl
theorem u7_17 {d : Nat} {R : gR} {μ : gM} {L : List Value} {st : List Value} {o : Nat} {i : Int32} (hk : gc_kd o = 20) : gc_W (gc_S d) cX0_thoseAt 0 0 R 17 L (.int i :: .ref o :: st) μ ↔ (vp_in i (gc_al o) ∧ gc_W (gc_S d) cX0_thoseAt 0 0 R 18 L (.int (μ o i.toNatClampNeg) :: st) μ) := us_iald dX0_thoseAt_17 hk
theorem u7_18 {d : Nat} {R : gR} {μ : gM} {l0 l2 l3 : Value} {st : List Value} {x : Int32}  : gc_W (gc_S d) cX0_thoseAt 0 0 R 18 [l0, .int x, l2, l3] st μ ↔ gc_W (gc_S d) cX0_thoseAt 0 0 R 19 [l0, .int x, l2, l3] (.int x :: st) μ := us_iload_n dX0_thoseAt_18 rfl
theorem u7_19 {d : Nat} {R : gR} {μ : gM} {L : List Value} {st : List Value} {x y : Int32}  : gc_W (gc_S d) cX0_thoseAt 0 0 R 19 L (.int y :: .int x :: st) μ ↔ if x = y then gc_W (gc_S d) cX0_thoseAt 0 0 R 22 L st μ else gc_W (gc_S d) cX0_thoseAt 0 0 R 28 L st μ := us_icne dX0_thoseAt_19 rfl
theorem u7_22 {d : Nat} {R : gR} {μ : gM} {l0 l1 l3 : Value} {st : List Value} {x : Int32}  : gc_W (gc_S d) cX0_thoseAt 0 0 R 22 [l0, l1, .int x, l3] st μ ↔ gc_W (gc_S d) cX0_thoseAt 0 0 R 23 [l0, l1, .int x, l3] (.int x :: st) μ := us_iload_n dX0_thoseAt_22 rfl
theorem u7_23 {d : Nat} {R : gR} {μ : gM} {L : List Value} {st : List Value}   : gc_W (gc_S d) cX0_thoseAt 0 0 R 23 L st μ ↔ gc_W (gc_S d) cX0_thoseAt 0 0 R 24 L (.int 1 :: st) μ := us_iconst dX0_thoseAt_23 ci_iconst_1
theorem u7_24 {d : Nat} {R : gR} {μ : gM} {l0 l1 l2 : Value} {st : List Value} {x : Int32}  : gc_W (gc_S d) cX0_thoseAt 0 0 R 24 [l0, l1, l2, .int x] st μ ↔ gc_W (gc_S d) cX0_thoseAt 0 0 R 25 [l0, l1, l2, .int x] (.int x :: st) μ := us_iload_n dX0_thoseAt_24 rfl
theorem u7_25 {d : Nat} {R : gR} {μ : gM} {L : List Value} {st : List Value} {x y : Int32}  : gc_W (gc_S d) cX0_thoseAt 0 0 R 25 L (.int y :: .int x :: st) μ ↔ gc_W (gc_S d) cX0_thoseAt 0 0 R 26 L (.int (x <<< (y &&& 31)) :: st) μ := us_ishl dX0_thoseAt_25
theorem u7_26 {d : Nat} {R : gR} {μ : gM} {L : List Value} {st : List Value} {x y : Int32}  : gc_W (gc_S d) cX0_thoseAt 0 0 R 26 L (.int y :: .int x :: st) μ ↔ gc_W (gc_S d) cX0_thoseAt 0 0 R 27 L (.int (x ||| y) :: st) μ := us_ior dX0_thoseAt_26
theorem u7_27 {d : Nat} {R : gR} {μ : gM} {l0 l1 l2 l3 : Value} {st : List Value} {x : Int32} (hs : gc_sk l2 = true) : gc_W (gc_S d) cX0_thoseAt 0 0 R 27 [l0, l1, l2, l3] (.int x :: st) μ ↔ gc_W (gc_S d) cX0_thoseAt 0 0 R 28 [l0, l1, .int x, l3] st μ := us_istore_n dX0_thoseAt_27 rfl hs
theorem u7_28 {d : Nat} {R : gR} {μ : gM} {l0 l1 l2 : Value} {st : List Value} {x : Int32}  : gc_W (gc_S d) cX0_thoseAt 0 0 R 28 [l0, l1, l2, .int x] st μ ↔ gc_W (gc_S d) cX0_thoseAt 0 0 R 31 [l0, l1, l2, .int (x + 1)] st μ := us_iinc dX0_thoseAt_28 rfl ci_iinc_1
theorem u7_31 {d : Nat} {R : gR} {μ : gM} {L : List Value} {st : List Value}  : gc_W (gc_S d) cX0_thoseAt 0 0 R 31 L st μ ↔ gc_W (gc_S d) cX0_thoseAt 0 0 R 4 L st μ := us_goto dX0_thoseAt_31 rfl
theorem u7_34 {d : Nat} {R : gR} {μ : gM} {l0 l1 l3 : Value} {st : List Value} {x : Int32}  : gc_W (gc_S d) cX0_thoseAt 0 0 R 34 [l0, l1, .int x, l3] st μ ↔ gc_W (gc_S d) cX0_thoseAt 0 0 R 35 [l0, l1, .int x, l3] (.int x :: st) μ := us_iload_n dX0_thoseAt_34 rfl
theorem u7_35 {d : Nat} {R : gR} {μ : gM} {L : List Value} {v : Int32}  : gc_W (gc_S d) cX0_thoseAt 0 0 R 35 L [.int v] μ ↔ R (some (.int v)) μ := us_iret dX0_thoseAt_35 rfl
theorem s7 {d : Nat} {R : gR} {μ : gM} {o : Nat} {a0 : Int32} : gc_S (d + 1) 7 [.ref o, .int a0] μ R ↔ gc_W (gc_S d) cX0_thoseAt 0 0 R 0 [.ref o, .int a0, .retAddr 0, .retAddr 0] [] μ := us_call (gm_7) rfl rfl
theorem dX0_wetOfAll_0 : decode cX0_wetOfAll 0 = .ok (.iconst 0, 1) := by decide +kernel
theorem dX0_wetOfAll_1 : decode cX0_wetOfAll 1 = .ok (.istore_n 1, 1) := by decide +kernel
theorem dX0_wetOfAll_2 : decode cX0_wetOfAll 2 = .ok (.iconst 0, 1) := by decide +kernel
theorem dX0_wetOfAll_3 : decode cX0_wetOfAll 3 = .ok (.istore_n 2, 1) := by decide +kernel
theorem dX0_wetOfAll_4 : decode cX0_wetOfAll 4 = .ok (.iload_n 2, 1) := by decide +kernel
theorem dX0_wetOfAll_5 : decode cX0_wetOfAll 5 = .ok (.bipush 16, 2) := by decide +kernel
theorem dX0_wetOfAll_7 : decode cX0_wetOfAll 7 = .ok (.if_icmp .ge 18, 3) := by decide +kernel
theorem dX0_wetOfAll_10 : decode cX0_wetOfAll 10 = .ok (.iload_n 1, 1) := by decide +kernel
theorem dX0_wetOfAll_11 : decode cX0_wetOfAll 11 = .ok (.aload_n 0, 1) := by decide +kernel
theorem dX0_wetOfAll_12 : decode cX0_wetOfAll 12 = .ok (.getfield 9, 3) := by decide +kernel
theorem dX0_wetOfAll_15 : decode cX0_wetOfAll 15 = .ok (.iload_n 2, 1) := by decide +kernel
theorem dX0_wetOfAll_16 : decode cX0_wetOfAll 16 = .ok (.iaload, 1) := by decide +kernel
theorem dX0_wetOfAll_17 : decode cX0_wetOfAll 17 = .ok (.iadd, 1) := by decide +kernel
theorem dX0_wetOfAll_18 : decode cX0_wetOfAll 18 = .ok (.istore_n 1, 1) := by decide +kernel
theorem dX0_wetOfAll_19 : decode cX0_wetOfAll 19 = .ok (.iinc 2 1, 3) := by decide +kernel
theorem dX0_wetOfAll_22 : decode cX0_wetOfAll 22 = .ok (.goto (-18), 3) := by decide +kernel
theorem dX0_wetOfAll_25 : decode cX0_wetOfAll 25 = .ok (.iload_n 1, 1) := by decide +kernel
theorem dX0_wetOfAll_26 : decode cX0_wetOfAll 26 = .ok (.ireturn, 1) := by decide +kernel
theorem u8_0 {d : Nat} {R : gR} {μ : gM} {L : List Value} {st : List Value}   : gc_W (gc_S d) cX0_wetOfAll 0 0 R 0 L st μ ↔ gc_W (gc_S d) cX0_wetOfAll 0 0 R 1 L (.int 0 :: st) μ := us_iconst dX0_wetOfAll_0 ci_iconst_0
theorem u8_1 {d : Nat} {R : gR} {μ : gM} {l0 l1 l2 : Value} {st : List Value} {x : Int32} (hs : gc_sk l1 = true) : gc_W (gc_S d) cX0_wetOfAll 0 0 R 1 [l0, l1, l2] (.int x :: st) μ ↔ gc_W (gc_S d) cX0_wetOfAll 0 0 R 2 [l0, .int x, l2] st μ := us_istore_n dX0_wetOfAll_1 rfl hs
theorem u8_2 {d : Nat} {R : gR} {μ : gM} {L : List Value} {st : List Value}   : gc_W (gc_S d) cX0_wetOfAll 0 0 R 2 L st μ ↔ gc_W (gc_S d) cX0_wetOfAll 0 0 R 3 L (.int 0 :: st) μ := us_iconst dX0_wetOfAll_2 ci_iconst_0
theorem u8_3 {d : Nat} {R : gR} {μ : gM} {l0 l1 l2 : Value} {st : List Value} {x : Int32} (hs : gc_sk l2 = true) : gc_W (gc_S d) cX0_wetOfAll 0 0 R 3 [l0, l1, l2] (.int x :: st) μ ↔ gc_W (gc_S d) cX0_wetOfAll 0 0 R 4 [l0, l1, .int x] st μ := us_istore_n dX0_wetOfAll_3 rfl hs
theorem u8_4 {d : Nat} {R : gR} {μ : gM} {l0 l1 : Value} {st : List Value} {x : Int32}  : gc_W (gc_S d) cX0_wetOfAll 0 0 R 4 [l0, l1, .int x] st μ ↔ gc_W (gc_S d) cX0_wetOfAll 0 0 R 5 [l0, l1, .int x] (.int x :: st) μ := us_iload_n dX0_wetOfAll_4 rfl
theorem u8_5 {d : Nat} {R : gR} {μ : gM} {L : List Value} {st : List Value}   : gc_W (gc_S d) cX0_wetOfAll 0 0 R 5 L st μ ↔ gc_W (gc_S d) cX0_wetOfAll 0 0 R 7 L (.int 16 :: st) μ := us_bipush dX0_wetOfAll_5 ci_bipush_16
theorem u8_7 {d : Nat} {R : gR} {μ : gM} {L : List Value} {st : List Value} {x y : Int32}  : gc_W (gc_S d) cX0_wetOfAll 0 0 R 7 L (.int y :: .int x :: st) μ ↔ if y ≤ x then gc_W (gc_S d) cX0_wetOfAll 0 0 R 25 L st μ else gc_W (gc_S d) cX0_wetOfAll 0 0 R 10 L st μ := us_icge dX0_wetOfAll_7 rfl
theorem u8_10 {d : Nat} {R : gR} {μ : gM} {l0 l2 : Value} {st : List Value} {x : Int32}  : gc_W (gc_S d) cX0_wetOfAll 0 0 R 10 [l0, .int x, l2] st μ ↔ gc_W (gc_S d) cX0_wetOfAll 0 0 R 11 [l0, .int x, l2] (.int x :: st) μ := us_iload_n dX0_wetOfAll_10 rfl
theorem u8_11 {d : Nat} {R : gR} {μ : gM} {l1 l2 : Value} {st : List Value} {x : Nat}  : gc_W (gc_S d) cX0_wetOfAll 0 0 R 11 [.ref x, l1, l2] st μ ↔ gc_W (gc_S d) cX0_wetOfAll 0 0 R 12 [.ref x, l1, l2] (.ref x :: st) μ := us_aload_n dX0_wetOfAll_11 rfl
theorem u8_12 {d : Nat} {R : gR} {μ : gM} {L : List Value} {st : List Value} {o : Nat} (hk : gc_kd o = 0) : gc_W (gc_S d) cX0_wetOfAll 0 0 R 12 L (.ref o :: st) μ ↔ gc_W (gc_S d) cX0_wetOfAll 0 0 R 15 L (gc_fv o 2 μ :: st) μ := us_getf dX0_wetOfAll_12 gf_0_9 hk
theorem u8_15 {d : Nat} {R : gR} {μ : gM} {l0 l1 : Value} {st : List Value} {x : Int32}  : gc_W (gc_S d) cX0_wetOfAll 0 0 R 15 [l0, l1, .int x] st μ ↔ gc_W (gc_S d) cX0_wetOfAll 0 0 R 16 [l0, l1, .int x] (.int x :: st) μ := us_iload_n dX0_wetOfAll_15 rfl
theorem u8_16 {d : Nat} {R : gR} {μ : gM} {L : List Value} {st : List Value} {o : Nat} {i : Int32} (hk : gc_kd o = 20) : gc_W (gc_S d) cX0_wetOfAll 0 0 R 16 L (.int i :: .ref o :: st) μ ↔ (vp_in i (gc_al o) ∧ gc_W (gc_S d) cX0_wetOfAll 0 0 R 17 L (.int (μ o i.toNatClampNeg) :: st) μ) := us_iald dX0_wetOfAll_16 hk
theorem u8_17 {d : Nat} {R : gR} {μ : gM} {L : List Value} {st : List Value} {x y : Int32}  : gc_W (gc_S d) cX0_wetOfAll 0 0 R 17 L (.int y :: .int x :: st) μ ↔ gc_W (gc_S d) cX0_wetOfAll 0 0 R 18 L (.int (x + y) :: st) μ := us_iadd dX0_wetOfAll_17
theorem u8_18 {d : Nat} {R : gR} {μ : gM} {l0 l1 l2 : Value} {st : List Value} {x : Int32} (hs : gc_sk l1 = true) : gc_W (gc_S d) cX0_wetOfAll 0 0 R 18 [l0, l1, l2] (.int x :: st) μ ↔ gc_W (gc_S d) cX0_wetOfAll 0 0 R 19 [l0, .int x, l2] st μ := us_istore_n dX0_wetOfAll_18 rfl hs
theorem u8_19 {d : Nat} {R : gR} {μ : gM} {l0 l1 : Value} {st : List Value} {x : Int32}  : gc_W (gc_S d) cX0_wetOfAll 0 0 R 19 [l0, l1, .int x] st μ ↔ gc_W (gc_S d) cX0_wetOfAll 0 0 R 22 [l0, l1, .int (x + 1)] st μ := us_iinc dX0_wetOfAll_19 rfl ci_iinc_1
theorem u8_22 {d : Nat} {R : gR} {μ : gM} {L : List Value} {st : List Value}  : gc_W (gc_S d) cX0_wetOfAll 0 0 R 22 L st μ ↔ gc_W (gc_S d) cX0_wetOfAll 0 0 R 4 L st μ := us_goto dX0_wetOfAll_22 rfl
theorem u8_25 {d : Nat} {R : gR} {μ : gM} {l0 l2 : Value} {st : List Value} {x : Int32}  : gc_W (gc_S d) cX0_wetOfAll 0 0 R 25 [l0, .int x, l2] st μ ↔ gc_W (gc_S d) cX0_wetOfAll 0 0 R 26 [l0, .int x, l2] (.int x :: st) μ := us_iload_n dX0_wetOfAll_25 rfl
theorem u8_26 {d : Nat} {R : gR} {μ : gM} {L : List Value} {v : Int32}  : gc_W (gc_S d) cX0_wetOfAll 0 0 R 26 L [.int v] μ ↔ R (some (.int v)) μ := us_iret dX0_wetOfAll_26 rfl
theorem s8 {d : Nat} {R : gR} {μ : gM} {o : Nat} : gc_S (d + 1) 8 [.ref o] μ R ↔ gc_W (gc_S d) cX0_wetOfAll 0 0 R 0 [.ref o, .retAddr 0, .retAddr 0] [] μ := us_call (gm_8) rfl rfl
theorem dX0_sorrowOfAll_0 : decode cX0_sorrowOfAll 0 = .ok (.iconst 0, 1) := by decide +kernel
theorem dX0_sorrowOfAll_1 : decode cX0_sorrowOfAll 1 = .ok (.istore_n 1, 1) := by decide +kernel
theorem dX0_sorrowOfAll_2 : decode cX0_sorrowOfAll 2 = .ok (.iconst 0, 1) := by decide +kernel
theorem dX0_sorrowOfAll_3 : decode cX0_sorrowOfAll 3 = .ok (.istore_n 2, 1) := by decide +kernel
theorem dX0_sorrowOfAll_4 : decode cX0_sorrowOfAll 4 = .ok (.iload_n 2, 1) := by decide +kernel
theorem dX0_sorrowOfAll_5 : decode cX0_sorrowOfAll 5 = .ok (.aload_n 0, 1) := by decide +kernel
theorem dX0_sorrowOfAll_6 : decode cX0_sorrowOfAll 6 = .ok (.getfield 69, 3) := by decide +kernel
theorem dX0_sorrowOfAll_9 : decode cX0_sorrowOfAll 9 = .ok (.if_icmp .ge 18, 3) := by decide +kernel
theorem dX0_sorrowOfAll_12 : decode cX0_sorrowOfAll 12 = .ok (.iload_n 1, 1) := by decide +kernel
theorem dX0_sorrowOfAll_13 : decode cX0_sorrowOfAll 13 = .ok (.aload_n 0, 1) := by decide +kernel
theorem dX0_sorrowOfAll_14 : decode cX0_sorrowOfAll 14 = .ok (.getfield 27, 3) := by decide +kernel
theorem dX0_sorrowOfAll_17 : decode cX0_sorrowOfAll 17 = .ok (.iload_n 2, 1) := by decide +kernel
theorem dX0_sorrowOfAll_18 : decode cX0_sorrowOfAll 18 = .ok (.iaload, 1) := by decide +kernel
theorem dX0_sorrowOfAll_19 : decode cX0_sorrowOfAll 19 = .ok (.iadd, 1) := by decide +kernel
theorem dX0_sorrowOfAll_20 : decode cX0_sorrowOfAll 20 = .ok (.istore_n 1, 1) := by decide +kernel
theorem dX0_sorrowOfAll_21 : decode cX0_sorrowOfAll 21 = .ok (.iinc 2 1, 3) := by decide +kernel
theorem dX0_sorrowOfAll_24 : decode cX0_sorrowOfAll 24 = .ok (.goto (-20), 3) := by decide +kernel
theorem dX0_sorrowOfAll_27 : decode cX0_sorrowOfAll 27 = .ok (.iload_n 1, 1) := by decide +kernel
theorem dX0_sorrowOfAll_28 : decode cX0_sorrowOfAll 28 = .ok (.ireturn, 1) := by decide +kernel
theorem u9_0 {d : Nat} {R : gR} {μ : gM} {L : List Value} {st : List Value}   : gc_W (gc_S d) cX0_sorrowOfAll 0 0 R 0 L st μ ↔ gc_W (gc_S d) cX0_sorrowOfAll 0 0 R 1 L (.int 0 :: st) μ := us_iconst dX0_sorrowOfAll_0 ci_iconst_0
theorem u9_1 {d : Nat} {R : gR} {μ : gM} {l0 l1 l2 : Value} {st : List Value} {x : Int32} (hs : gc_sk l1 = true) : gc_W (gc_S d) cX0_sorrowOfAll 0 0 R 1 [l0, l1, l2] (.int x :: st) μ ↔ gc_W (gc_S d) cX0_sorrowOfAll 0 0 R 2 [l0, .int x, l2] st μ := us_istore_n dX0_sorrowOfAll_1 rfl hs
theorem u9_2 {d : Nat} {R : gR} {μ : gM} {L : List Value} {st : List Value}   : gc_W (gc_S d) cX0_sorrowOfAll 0 0 R 2 L st μ ↔ gc_W (gc_S d) cX0_sorrowOfAll 0 0 R 3 L (.int 0 :: st) μ := us_iconst dX0_sorrowOfAll_2 ci_iconst_0
theorem u9_3 {d : Nat} {R : gR} {μ : gM} {l0 l1 l2 : Value} {st : List Value} {x : Int32} (hs : gc_sk l2 = true) : gc_W (gc_S d) cX0_sorrowOfAll 0 0 R 3 [l0, l1, l2] (.int x :: st) μ ↔ gc_W (gc_S d) cX0_sorrowOfAll 0 0 R 4 [l0, l1, .int x] st μ := us_istore_n dX0_sorrowOfAll_3 rfl hs
theorem u9_4 {d : Nat} {R : gR} {μ : gM} {l0 l1 : Value} {st : List Value} {x : Int32}  : gc_W (gc_S d) cX0_sorrowOfAll 0 0 R 4 [l0, l1, .int x] st μ ↔ gc_W (gc_S d) cX0_sorrowOfAll 0 0 R 5 [l0, l1, .int x] (.int x :: st) μ := us_iload_n dX0_sorrowOfAll_4 rfl
theorem u9_5 {d : Nat} {R : gR} {μ : gM} {l1 l2 : Value} {st : List Value} {x : Nat}  : gc_W (gc_S d) cX0_sorrowOfAll 0 0 R 5 [.ref x, l1, l2] st μ ↔ gc_W (gc_S d) cX0_sorrowOfAll 0 0 R 6 [.ref x, l1, l2] (.ref x :: st) μ := us_aload_n dX0_sorrowOfAll_5 rfl
theorem u9_6 {d : Nat} {R : gR} {μ : gM} {L : List Value} {st : List Value} {o : Nat} (hk : gc_kd o = 0) : gc_W (gc_S d) cX0_sorrowOfAll 0 0 R 6 L (.ref o :: st) μ ↔ gc_W (gc_S d) cX0_sorrowOfAll 0 0 R 9 L (gc_fv o 13 μ :: st) μ := us_getf dX0_sorrowOfAll_6 gf_0_69 hk
theorem u9_9 {d : Nat} {R : gR} {μ : gM} {L : List Value} {st : List Value} {x y : Int32}  : gc_W (gc_S d) cX0_sorrowOfAll 0 0 R 9 L (.int y :: .int x :: st) μ ↔ if y ≤ x then gc_W (gc_S d) cX0_sorrowOfAll 0 0 R 27 L st μ else gc_W (gc_S d) cX0_sorrowOfAll 0 0 R 12 L st μ := us_icge dX0_sorrowOfAll_9 rfl
theorem u9_12 {d : Nat} {R : gR} {μ : gM} {l0 l2 : Value} {st : List Value} {x : Int32}  : gc_W (gc_S d) cX0_sorrowOfAll 0 0 R 12 [l0, .int x, l2] st μ ↔ gc_W (gc_S d) cX0_sorrowOfAll 0 0 R 13 [l0, .int x, l2] (.int x :: st) μ := us_iload_n dX0_sorrowOfAll_12 rfl
theorem u9_13 {d : Nat} {R : gR} {μ : gM} {l1 l2 : Value} {st : List Value} {x : Nat}  : gc_W (gc_S d) cX0_sorrowOfAll 0 0 R 13 [.ref x, l1, l2] st μ ↔ gc_W (gc_S d) cX0_sorrowOfAll 0 0 R 14 [.ref x, l1, l2] (.ref x :: st) μ := us_aload_n dX0_sorrowOfAll_13 rfl
theorem u9_14 {d : Nat} {R : gR} {μ : gM} {L : List Value} {st : List Value} {o : Nat} (hk : gc_kd o = 0) : gc_W (gc_S d) cX0_sorrowOfAll 0 0 R 14 L (.ref o :: st) μ ↔ gc_W (gc_S d) cX0_sorrowOfAll 0 0 R 17 L (gc_fv o 7 μ :: st) μ := us_getf dX0_sorrowOfAll_14 gf_0_27 hk
theorem u9_17 {d : Nat} {R : gR} {μ : gM} {l0 l1 : Value} {st : List Value} {x : Int32}  : gc_W (gc_S d) cX0_sorrowOfAll 0 0 R 17 [l0, l1, .int x] st μ ↔ gc_W (gc_S d) cX0_sorrowOfAll 0 0 R 18 [l0, l1, .int x] (.int x :: st) μ := us_iload_n dX0_sorrowOfAll_17 rfl
theorem u9_18 {d : Nat} {R : gR} {μ : gM} {L : List Value} {st : List Value} {o : Nat} {i : Int32} (hk : gc_kd o = 20) : gc_W (gc_S d) cX0_sorrowOfAll 0 0 R 18 L (.int i :: .ref o :: st) μ ↔ (vp_in i (gc_al o) ∧ gc_W (gc_S d) cX0_sorrowOfAll 0 0 R 19 L (.int (μ o i.toNatClampNeg) :: st) μ) := us_iald dX0_sorrowOfAll_18 hk
theorem u9_19 {d : Nat} {R : gR} {μ : gM} {L : List Value} {st : List Value} {x y : Int32}  : gc_W (gc_S d) cX0_sorrowOfAll 0 0 R 19 L (.int y :: .int x :: st) μ ↔ gc_W (gc_S d) cX0_sorrowOfAll 0 0 R 20 L (.int (x + y) :: st) μ := us_iadd dX0_sorrowOfAll_19
theorem u9_20 {d : Nat} {R : gR} {μ : gM} {l0 l1 l2 : Value} {st : List Value} {x : Int32} (hs : gc_sk l1 = true) : gc_W (gc_S d) cX0_sorrowOfAll 0 0 R 20 [l0, l1, l2] (.int x :: st) μ ↔ gc_W (gc_S d) cX0_sorrowOfAll 0 0 R 21 [l0, .int x, l2] st μ := us_istore_n dX0_sorrowOfAll_20 rfl hs
theorem u9_21 {d : Nat} {R : gR} {μ : gM} {l0 l1 : Value} {st : List Value} {x : Int32}  : gc_W (gc_S d) cX0_sorrowOfAll 0 0 R 21 [l0, l1, .int x] st μ ↔ gc_W (gc_S d) cX0_sorrowOfAll 0 0 R 24 [l0, l1, .int (x + 1)] st μ := us_iinc dX0_sorrowOfAll_21 rfl ci_iinc_1
theorem u9_24 {d : Nat} {R : gR} {μ : gM} {L : List Value} {st : List Value}  : gc_W (gc_S d) cX0_sorrowOfAll 0 0 R 24 L st μ ↔ gc_W (gc_S d) cX0_sorrowOfAll 0 0 R 4 L st μ := us_goto dX0_sorrowOfAll_24 rfl
theorem u9_27 {d : Nat} {R : gR} {μ : gM} {l0 l2 : Value} {st : List Value} {x : Int32}  : gc_W (gc_S d) cX0_sorrowOfAll 0 0 R 27 [l0, .int x, l2] st μ ↔ gc_W (gc_S d) cX0_sorrowOfAll 0 0 R 28 [l0, .int x, l2] (.int x :: st) μ := us_iload_n dX0_sorrowOfAll_27 rfl
theorem u9_28 {d : Nat} {R : gR} {μ : gM} {L : List Value} {v : Int32}  : gc_W (gc_S d) cX0_sorrowOfAll 0 0 R 28 L [.int v] μ ↔ R (some (.int v)) μ := us_iret dX0_sorrowOfAll_28 rfl
theorem s9 {d : Nat} {R : gR} {μ : gM} {o : Nat} : gc_S (d + 1) 9 [.ref o] μ R ↔ gc_W (gc_S d) cX0_sorrowOfAll 0 0 R 0 [.ref o, .retAddr 0, .retAddr 0] [] μ := us_call (gm_9) rfl rfl
theorem dX0_given_0 : decode cX0_given 0 = .ok (.aload_n 0, 1) := by decide +kernel
theorem dX0_given_1 : decode cX0_given 1 = .ok (.getfield 53, 3) := by decide +kernel
theorem dX0_given_4 : decode cX0_given 4 = .ok (.iload_n 1, 1) := by decide +kernel
theorem dX0_given_5 : decode cX0_given 5 = .ok (.aaload, 1) := by decide +kernel
theorem dX0_given_6 : decode cX0_given 6 = .ok (.astore 5, 2) := by decide +kernel
theorem dX0_given_8 : decode cX0_given 8 = .ok (.aload 5, 2) := by decide +kernel
theorem dX0_given_10 : decode cX0_given 10 = .ok (.getfield 76, 3) := by decide +kernel
theorem dX0_given_13 : decode cX0_given 13 = .ok (.getfield 89, 3) := by decide +kernel
theorem dX0_given_16 : decode cX0_given 16 = .ok (.ifCond .le 16, 3) := by decide +kernel
theorem dX0_given_19 : decode cX0_given 19 = .ok (.aload 5, 2) := by decide +kernel
theorem dX0_given_21 : decode cX0_given 21 = .ok (.iload_n 2, 1) := by decide +kernel
theorem dX0_given_22 : decode cX0_given 22 = .ok (.iload_n 3, 1) := by decide +kernel
theorem dX0_given_23 : decode cX0_given 23 = .ok (.iload 4, 2) := by decide +kernel
theorem dX0_given_25 : decode cX0_given 25 = .ok (.invokevirtual 92, 3) := by decide +kernel
theorem dX0_given_28 : decode cX0_given 28 = .ok (.invokestatic 96, 3) := by decide +kernel
theorem dX0_given_31 : decode cX0_given 31 = .ok (.ireturn, 1) := by decide +kernel
theorem dX0_given_32 : decode cX0_given 32 = .ok (.iload_n 1, 1) := by decide +kernel
theorem dX0_given_33 : decode cX0_given 33 = .ok (.ifCond .ne 10, 3) := by decide +kernel
theorem dX0_given_36 : decode cX0_given 36 = .ok (.iload_n 2, 1) := by decide +kernel
theorem dX0_given_37 : decode cX0_given 37 = .ok (.invokestatic 96, 3) := by decide +kernel
theorem dX0_given_40 : decode cX0_given 40 = .ok (.goto 4, 3) := by decide +kernel
theorem dX0_given_43 : decode cX0_given 43 = .ok (.iconst 3, 1) := by decide +kernel
theorem dX0_given_44 : decode cX0_given 44 = .ok (.ireturn, 1) := by decide +kernel
theorem u13_0 {d : Nat} {R : gR} {μ : gM} {l1 l2 l3 l4 l5 : Value} {st : List Value} {x : Nat}  : gc_W (gc_S d) cX0_given 0 0 R 0 [.ref x, l1, l2, l3, l4, l5] st μ ↔ gc_W (gc_S d) cX0_given 0 0 R 1 [.ref x, l1, l2, l3, l4, l5] (.ref x :: st) μ := us_aload_n dX0_given_0 rfl
theorem u13_1 {d : Nat} {R : gR} {μ : gM} {L : List Value} {st : List Value} {o : Nat} (hk : gc_kd o = 0) : gc_W (gc_S d) cX0_given 0 0 R 1 L (.ref o :: st) μ ↔ gc_W (gc_S d) cX0_given 0 0 R 4 L (gc_fv o 1 μ :: st) μ := us_getf dX0_given_1 gf_0_53 hk
theorem u13_4 {d : Nat} {R : gR} {μ : gM} {l0 l2 l3 l4 l5 : Value} {st : List Value} {x : Int32}  : gc_W (gc_S d) cX0_given 0 0 R 4 [l0, .int x, l2, l3, l4, l5] st μ ↔ gc_W (gc_S d) cX0_given 0 0 R 5 [l0, .int x, l2, l3, l4, l5] (.int x :: st) μ := us_iload_n dX0_given_4 rfl
theorem u13_5 {d : Nat} {R : gR} {μ : gM} {L : List Value} {st : List Value} {o : Nat} {i : Int32} {q : Nat} (hk : gc_kd o = q) (hq : (Nat.ble 22 q && Nat.ble q 24) = true) : gc_W (gc_S d) cX0_given 0 0 R 5 L (.int i :: .ref o :: st) μ ↔ (vp_in i (gc_al o) ∧ gc_W (gc_S d) cX0_given 0 0 R 6 L (.ref (gc_ra o i.toNatClampNeg) :: st) μ) := us_aald dX0_given_5 hk hq
theorem u13_6 {d : Nat} {R : gR} {μ : gM} {l0 l1 l2 l3 l4 l5 : Value} {st : List Value} {x : Nat} (hs : gc_sk l5 = true) : gc_W (gc_S d) cX0_given 0 0 R 6 [l0, l1, l2, l3, l4, l5] (.ref x :: st) μ ↔ gc_W (gc_S d) cX0_given 0 0 R 8 [l0, l1, l2, l3, l4, .ref x] st μ := us_astore dX0_given_6 rfl hs
theorem u13_8 {d : Nat} {R : gR} {μ : gM} {l0 l1 l2 l3 l4 : Value} {st : List Value} {x : Nat}  : gc_W (gc_S d) cX0_given 0 0 R 8 [l0, l1, l2, l3, l4, .ref x] st μ ↔ gc_W (gc_S d) cX0_given 0 0 R 10 [l0, l1, l2, l3, l4, .ref x] (.ref x :: st) μ := us_aload dX0_given_8 rfl
theorem u13_10 {d : Nat} {R : gR} {μ : gM} {L : List Value} {st : List Value} {o : Nat} (hk : gc_kd o = 2) : gc_W (gc_S d) cX0_given 0 0 R 10 L (.ref o :: st) μ ↔ gc_W (gc_S d) cX0_given 0 0 R 13 L (gc_fv o 0 μ :: st) μ := us_getf dX0_given_10 gf_0_76 hk
theorem u13_13 {d : Nat} {R : gR} {μ : gM} {L : List Value} {st : List Value} {o : Nat} (hk : gc_kd o = 7) : gc_W (gc_S d) cX0_given 0 0 R 13 L (.ref o :: st) μ ↔ gc_W (gc_S d) cX0_given 0 0 R 16 L (gc_fv o 1 μ :: st) μ := us_getf dX0_given_13 gf_0_89 hk
theorem u13_16 {d : Nat} {R : gR} {μ : gM} {L : List Value} {st : List Value} {x : Int32}  : gc_W (gc_S d) cX0_given 0 0 R 16 L (.int x :: st) μ ↔ if x ≤ 0 then gc_W (gc_S d) cX0_given 0 0 R 32 L st μ else gc_W (gc_S d) cX0_given 0 0 R 19 L st μ := us_ifle dX0_given_16 rfl
theorem u13_19 {d : Nat} {R : gR} {μ : gM} {l0 l1 l2 l3 l4 : Value} {st : List Value} {x : Nat}  : gc_W (gc_S d) cX0_given 0 0 R 19 [l0, l1, l2, l3, l4, .ref x] st μ ↔ gc_W (gc_S d) cX0_given 0 0 R 21 [l0, l1, l2, l3, l4, .ref x] (.ref x :: st) μ := us_aload dX0_given_19 rfl
theorem u13_21 {d : Nat} {R : gR} {μ : gM} {l0 l1 l3 l4 l5 : Value} {st : List Value} {x : Int32}  : gc_W (gc_S d) cX0_given 0 0 R 21 [l0, l1, .int x, l3, l4, l5] st μ ↔ gc_W (gc_S d) cX0_given 0 0 R 22 [l0, l1, .int x, l3, l4, l5] (.int x :: st) μ := us_iload_n dX0_given_21 rfl
theorem u13_22 {d : Nat} {R : gR} {μ : gM} {l0 l1 l2 l4 l5 : Value} {st : List Value} {x : Int32}  : gc_W (gc_S d) cX0_given 0 0 R 22 [l0, l1, l2, .int x, l4, l5] st μ ↔ gc_W (gc_S d) cX0_given 0 0 R 23 [l0, l1, l2, .int x, l4, l5] (.int x :: st) μ := us_iload_n dX0_given_22 rfl
theorem u13_23 {d : Nat} {R : gR} {μ : gM} {l0 l1 l2 l3 l5 : Value} {st : List Value} {x : Int32}  : gc_W (gc_S d) cX0_given 0 0 R 23 [l0, l1, l2, l3, .int x, l5] st μ ↔ gc_W (gc_S d) cX0_given 0 0 R 25 [l0, l1, l2, l3, .int x, l5] (.int x :: st) μ := us_iload dX0_given_23 rfl
theorem u13_25 {d : Nat} {R : gR} {μ : gM} {L : List Value} {o : Nat} {a0 a1 a2 : Int32} (hk : gc_kd o = 2) : gc_W (gc_S d) cX0_given 0 0 R 25 L [.int a2, .int a1, .int a0, .ref o] μ ↔ gc_S d 11 [.ref o, .int a0, .int a1, .int a2] μ (fun v μ' => gc_W (gc_S d) cX0_given 0 0 R 28 L (v.toList ++ []) μ') := us_virt dX0_given_25 gn_0_92 gc_0_92_2 hk rfl rfl rfl rfl rfl
theorem u13_28 {d : Nat} {R : gR} {μ : gM} {L : List Value}  {a0 : Int32}  : gc_W (gc_S d) cX0_given 0 0 R 28 L [.int a0] μ ↔ gc_S d 12 [.int a0] μ (fun v μ' => gc_W (gc_S d) cX0_given 0 0 R 31 L (v.toList ++ []) μ') := us_nest dX0_given_28 gs_0_96 (by decide +kernel) rfl rfl rfl rfl
theorem u13_31 {d : Nat} {R : gR} {μ : gM} {L : List Value} {v : Int32}  : gc_W (gc_S d) cX0_given 0 0 R 31 L [.int v] μ ↔ R (some (.int v)) μ := us_iret dX0_given_31 rfl
theorem u13_32 {d : Nat} {R : gR} {μ : gM} {l0 l2 l3 l4 l5 : Value} {st : List Value} {x : Int32}  : gc_W (gc_S d) cX0_given 0 0 R 32 [l0, .int x, l2, l3, l4, l5] st μ ↔ gc_W (gc_S d) cX0_given 0 0 R 33 [l0, .int x, l2, l3, l4, l5] (.int x :: st) μ := us_iload_n dX0_given_32 rfl
theorem u13_33 {d : Nat} {R : gR} {μ : gM} {L : List Value} {st : List Value} {x : Int32}  : gc_W (gc_S d) cX0_given 0 0 R 33 L (.int x :: st) μ ↔ if x = 0 then gc_W (gc_S d) cX0_given 0 0 R 36 L st μ else gc_W (gc_S d) cX0_given 0 0 R 43 L st μ := us_ifne dX0_given_33 rfl
theorem u13_36 {d : Nat} {R : gR} {μ : gM} {l0 l1 l3 l4 l5 : Value} {st : List Value} {x : Int32}  : gc_W (gc_S d) cX0_given 0 0 R 36 [l0, l1, .int x, l3, l4, l5] st μ ↔ gc_W (gc_S d) cX0_given 0 0 R 37 [l0, l1, .int x, l3, l4, l5] (.int x :: st) μ := us_iload_n dX0_given_36 rfl
theorem u13_37 {d : Nat} {R : gR} {μ : gM} {L : List Value}  {a0 : Int32}  : gc_W (gc_S d) cX0_given 0 0 R 37 L [.int a0] μ ↔ gc_S d 12 [.int a0] μ (fun v μ' => gc_W (gc_S d) cX0_given 0 0 R 40 L (v.toList ++ []) μ') := us_nest dX0_given_37 gs_0_96 (by decide +kernel) rfl rfl rfl rfl
theorem u13_40 {d : Nat} {R : gR} {μ : gM} {L : List Value} {st : List Value}  : gc_W (gc_S d) cX0_given 0 0 R 40 L st μ ↔ gc_W (gc_S d) cX0_given 0 0 R 44 L st μ := us_goto dX0_given_40 rfl
theorem u13_43 {d : Nat} {R : gR} {μ : gM} {L : List Value} {st : List Value}   : gc_W (gc_S d) cX0_given 0 0 R 43 L st μ ↔ gc_W (gc_S d) cX0_given 0 0 R 44 L (.int 3 :: st) μ := us_iconst dX0_given_43 ci_iconst_3
theorem u13_44 {d : Nat} {R : gR} {μ : gM} {L : List Value} {v : Int32}  : gc_W (gc_S d) cX0_given 0 0 R 44 L [.int v] μ ↔ R (some (.int v)) μ := us_iret dX0_given_44 rfl
theorem s13 {d : Nat} {R : gR} {μ : gM} {o : Nat} {a0 a1 a2 a3 : Int32} : gc_S (d + 1) 13 [.ref o, .int a0, .int a1, .int a2, .int a3] μ R ↔ gc_W (gc_S d) cX0_given 0 0 R 0 [.ref o, .int a0, .int a1, .int a2, .int a3, .retAddr 0] [] μ := us_call (gm_13) rfl rfl
theorem dX0_weptBy_0 : decode cX0_weptBy 0 = .ok (.aload_n 0, 1) := by decide +kernel
theorem dX0_weptBy_1 : decode cX0_weptBy 1 = .ok (.getfield 27, 3) := by decide +kernel
theorem dX0_weptBy_4 : decode cX0_weptBy 4 = .ok (.iload_n 1, 1) := by decide +kernel
theorem dX0_weptBy_5 : decode cX0_weptBy 5 = .ok (.iaload, 1) := by decide +kernel
theorem dX0_weptBy_6 : decode cX0_weptBy 6 = .ok (.istore_n 2, 1) := by decide +kernel
theorem dX0_weptBy_7 : decode cX0_weptBy 7 = .ok (.aload_n 0, 1) := by decide +kernel
theorem dX0_weptBy_8 : decode cX0_weptBy 8 = .ok (.iconst 0, 1) := by decide +kernel
theorem dX0_weptBy_9 : decode cX0_weptBy 9 = .ok (.aload_n 0, 1) := by decide +kernel
theorem dX0_weptBy_10 : decode cX0_weptBy 10 = .ok (.iload_n 1, 1) := by decide +kernel
theorem dX0_weptBy_11 : decode cX0_weptBy 11 = .ok (.invokevirtual 100, 3) := by decide +kernel
theorem dX0_weptBy_14 : decode cX0_weptBy 14 = .ok (.aload_n 0, 1) := by decide +kernel
theorem dX0_weptBy_15 : decode cX0_weptBy 15 = .ok (.getfield 24, 3) := by decide +kernel
theorem dX0_weptBy_18 : decode cX0_weptBy 18 = .ok (.iload_n 1, 1) := by decide +kernel
theorem dX0_weptBy_19 : decode cX0_weptBy 19 = .ok (.iaload, 1) := by decide +kernel
theorem dX0_weptBy_20 : decode cX0_weptBy 20 = .ok (.iload_n 2, 1) := by decide +kernel
theorem dX0_weptBy_21 : decode cX0_weptBy 21 = .ok (.invokevirtual 104, 3) := by decide +kernel
theorem dX0_weptBy_24 : decode cX0_weptBy 24 = .ok (.iload_n 2, 1) := by decide +kernel
theorem dX0_weptBy_25 : decode cX0_weptBy 25 = .ok (.aload_n 0, 1) := by decide +kernel
theorem dX0_weptBy_26 : decode cX0_weptBy 26 = .ok (.getfield 66, 3) := by decide +kernel
theorem dX0_weptBy_29 : decode cX0_weptBy 29 = .ok (.bipush 8, 2) := by decide +kernel
theorem dX0_weptBy_31 : decode cX0_weptBy 31 = .ok (.irem, 1) := by decide +kernel
theorem dX0_weptBy_32 : decode cX0_weptBy 32 = .ok (.invokevirtual 110, 3) := by decide +kernel
theorem dX0_weptBy_35 : decode cX0_weptBy 35 = .ok (.ireturn, 1) := by decide +kernel
theorem u21_0 {d : Nat} {R : gR} {μ : gM} {l1 l2 : Value} {st : List Value} {x : Nat}  : gc_W (gc_S d) cX0_weptBy 0 0 R 0 [.ref x, l1, l2] st μ ↔ gc_W (gc_S d) cX0_weptBy 0 0 R 1 [.ref x, l1, l2] (.ref x :: st) μ := us_aload_n dX0_weptBy_0 rfl
theorem u21_1 {d : Nat} {R : gR} {μ : gM} {L : List Value} {st : List Value} {o : Nat} (hk : gc_kd o = 0) : gc_W (gc_S d) cX0_weptBy 0 0 R 1 L (.ref o :: st) μ ↔ gc_W (gc_S d) cX0_weptBy 0 0 R 4 L (gc_fv o 7 μ :: st) μ := us_getf dX0_weptBy_1 gf_0_27 hk
theorem u21_4 {d : Nat} {R : gR} {μ : gM} {l0 l2 : Value} {st : List Value} {x : Int32}  : gc_W (gc_S d) cX0_weptBy 0 0 R 4 [l0, .int x, l2] st μ ↔ gc_W (gc_S d) cX0_weptBy 0 0 R 5 [l0, .int x, l2] (.int x :: st) μ := us_iload_n dX0_weptBy_4 rfl
theorem u21_5 {d : Nat} {R : gR} {μ : gM} {L : List Value} {st : List Value} {o : Nat} {i : Int32} (hk : gc_kd o = 20) : gc_W (gc_S d) cX0_weptBy 0 0 R 5 L (.int i :: .ref o :: st) μ ↔ (vp_in i (gc_al o) ∧ gc_W (gc_S d) cX0_weptBy 0 0 R 6 L (.int (μ o i.toNatClampNeg) :: st) μ) := us_iald dX0_weptBy_5 hk
theorem u21_6 {d : Nat} {R : gR} {μ : gM} {l0 l1 l2 : Value} {st : List Value} {x : Int32} (hs : gc_sk l2 = true) : gc_W (gc_S d) cX0_weptBy 0 0 R 6 [l0, l1, l2] (.int x :: st) μ ↔ gc_W (gc_S d) cX0_weptBy 0 0 R 7 [l0, l1, .int x] st μ := us_istore_n dX0_weptBy_6 rfl hs
theorem u21_7 {d : Nat} {R : gR} {μ : gM} {l1 l2 : Value} {st : List Value} {x : Nat}  : gc_W (gc_S d) cX0_weptBy 0 0 R 7 [.ref x, l1, l2] st μ ↔ gc_W (gc_S d) cX0_weptBy 0 0 R 8 [.ref x, l1, l2] (.ref x :: st) μ := us_aload_n dX0_weptBy_7 rfl
theorem u21_8 {d : Nat} {R : gR} {μ : gM} {L : List Value} {st : List Value}   : gc_W (gc_S d) cX0_weptBy 0 0 R 8 L st μ ↔ gc_W (gc_S d) cX0_weptBy 0 0 R 9 L (.int 0 :: st) μ := us_iconst dX0_weptBy_8 ci_iconst_0
theorem u21_9 {d : Nat} {R : gR} {μ : gM} {l1 l2 : Value} {st : List Value} {x : Nat}  : gc_W (gc_S d) cX0_weptBy 0 0 R 9 [.ref x, l1, l2] st μ ↔ gc_W (gc_S d) cX0_weptBy 0 0 R 10 [.ref x, l1, l2] (.ref x :: st) μ := us_aload_n dX0_weptBy_9 rfl
theorem u21_10 {d : Nat} {R : gR} {μ : gM} {l0 l2 : Value} {st : List Value} {x : Int32}  : gc_W (gc_S d) cX0_weptBy 0 0 R 10 [l0, .int x, l2] st μ ↔ gc_W (gc_S d) cX0_weptBy 0 0 R 11 [l0, .int x, l2] (.int x :: st) μ := us_iload_n dX0_weptBy_10 rfl
theorem u21_11 {d : Nat} {R : gR} {μ : gM} {L : List Value} {o : Nat} {a0 : Int32} {s0 s1 : Value} (hk : gc_kd o = 0) : gc_W (gc_S d) cX0_weptBy 0 0 R 11 L [.int a0, .ref o, s0, s1] μ ↔ gc_S d 3 [.ref o, .int a0] μ (fun v μ' => gc_W (gc_S d) cX0_weptBy 0 0 R 14 L (v.toList ++ [s0, s1]) μ') := us_virt dX0_weptBy_11 gn_0_100 gc_0_100_0 hk rfl rfl rfl rfl rfl
theorem u21_14 {d : Nat} {R : gR} {μ : gM} {l1 l2 : Value} {st : List Value} {x : Nat}  : gc_W (gc_S d) cX0_weptBy 0 0 R 14 [.ref x, l1, l2] st μ ↔ gc_W (gc_S d) cX0_weptBy 0 0 R 15 [.ref x, l1, l2] (.ref x :: st) μ := us_aload_n dX0_weptBy_14 rfl
theorem u21_15 {d : Nat} {R : gR} {μ : gM} {L : List Value} {st : List Value} {o : Nat} (hk : gc_kd o = 0) : gc_W (gc_S d) cX0_weptBy 0 0 R 15 L (.ref o :: st) μ ↔ gc_W (gc_S d) cX0_weptBy 0 0 R 18 L (gc_fv o 6 μ :: st) μ := us_getf dX0_weptBy_15 gf_0_24 hk
theorem u21_18 {d : Nat} {R : gR} {μ : gM} {l0 l2 : Value} {st : List Value} {x : Int32}  : gc_W (gc_S d) cX0_weptBy 0 0 R 18 [l0, .int x, l2] st μ ↔ gc_W (gc_S d) cX0_weptBy 0 0 R 19 [l0, .int x, l2] (.int x :: st) μ := us_iload_n dX0_weptBy_18 rfl
theorem u21_19 {d : Nat} {R : gR} {μ : gM} {L : List Value} {st : List Value} {o : Nat} {i : Int32} (hk : gc_kd o = 20) : gc_W (gc_S d) cX0_weptBy 0 0 R 19 L (.int i :: .ref o :: st) μ ↔ (vp_in i (gc_al o) ∧ gc_W (gc_S d) cX0_weptBy 0 0 R 20 L (.int (μ o i.toNatClampNeg) :: st) μ) := us_iald dX0_weptBy_19 hk
theorem u21_20 {d : Nat} {R : gR} {μ : gM} {l0 l1 : Value} {st : List Value} {x : Int32}  : gc_W (gc_S d) cX0_weptBy 0 0 R 20 [l0, l1, .int x] st μ ↔ gc_W (gc_S d) cX0_weptBy 0 0 R 21 [l0, l1, .int x] (.int x :: st) μ := us_iload_n dX0_weptBy_20 rfl
theorem u21_21_1 {d : Nat} {R : gR} {μ : gM} {L : List Value} {o : Nat} {a0 a1 : Int32} {s0 s1 : Value} (hk : gc_kd o = 1) : gc_W (gc_S d) cX0_weptBy 0 0 R 21 L [.int a1, .int a0, .ref o, s0, s1] μ ↔ gc_S d 16 [.ref o, .int a0, .int a1] μ (fun v μ' => gc_W (gc_S d) cX0_weptBy 0 0 R 24 L (v.toList ++ [s0, s1]) μ') := us_virt dX0_weptBy_21 gn_0_104 gc_0_104_1 hk rfl rfl rfl rfl rfl
theorem u21_21_3 {d : Nat} {R : gR} {μ : gM} {L : List Value} {o : Nat} {a0 a1 : Int32} {s0 s1 : Value} (hk : gc_kd o = 3) : gc_W (gc_S d) cX0_weptBy 0 0 R 21 L [.int a1, .int a0, .ref o, s0, s1] μ ↔ gc_S d 15 [.ref o, .int a0, .int a1] μ (fun v μ' => gc_W (gc_S d) cX0_weptBy 0 0 R 24 L (v.toList ++ [s0, s1]) μ') := us_virt dX0_weptBy_21 gn_0_104 gc_0_104_3 hk rfl rfl rfl rfl rfl
theorem u21_21_4 {d : Nat} {R : gR} {μ : gM} {L : List Value} {o : Nat} {a0 a1 : Int32} {s0 s1 : Value} (hk : gc_kd o = 4) : gc_W (gc_S d) cX0_weptBy 0 0 R 21 L [.int a1, .int a0, .ref o, s0, s1] μ ↔ gc_S d 18 [.ref o, .int a0, .int a1] μ (fun v μ' => gc_W (gc_S d) cX0_weptBy 0 0 R 24 L (v.toList ++ [s0, s1]) μ') := us_virt dX0_weptBy_21 gn_0_104 gc_0_104_4 hk rfl rfl rfl rfl rfl
theorem u21_21_5 {d : Nat} {R : gR} {μ : gM} {L : List Value} {o : Nat} {a0 a1 : Int32} {s0 s1 : Value} (hk : gc_kd o = 5) : gc_W (gc_S d) cX0_weptBy 0 0 R 21 L [.int a1, .int a0, .ref o, s0, s1] μ ↔ gc_S d 14 [.ref o, .int a0, .int a1] μ (fun v μ' => gc_W (gc_S d) cX0_weptBy 0 0 R 24 L (v.toList ++ [s0, s1]) μ') := us_virt dX0_weptBy_21 gn_0_104 gc_0_104_5 hk rfl rfl rfl rfl rfl
theorem u21_21_6 {d : Nat} {R : gR} {μ : gM} {L : List Value} {o : Nat} {a0 a1 : Int32} {s0 s1 : Value} (hk : gc_kd o = 6) : gc_W (gc_S d) cX0_weptBy 0 0 R 21 L [.int a1, .int a0, .ref o, s0, s1] μ ↔ gc_S d 20 [.ref o, .int a0, .int a1] μ (fun v μ' => gc_W (gc_S d) cX0_weptBy 0 0 R 24 L (v.toList ++ [s0, s1]) μ') := us_virt dX0_weptBy_21 gn_0_104 gc_0_104_6 hk rfl rfl rfl rfl rfl
theorem u21_21_8 {d : Nat} {R : gR} {μ : gM} {L : List Value} {o : Nat} {a0 a1 : Int32} {s0 s1 : Value} (hk : gc_kd o = 8) : gc_W (gc_S d) cX0_weptBy 0 0 R 21 L [.int a1, .int a0, .ref o, s0, s1] μ ↔ gc_S d 17 [.ref o, .int a0, .int a1] μ (fun v μ' => gc_W (gc_S d) cX0_weptBy 0 0 R 24 L (v.toList ++ [s0, s1]) μ') := us_virt dX0_weptBy_21 gn_0_104 gc_0_104_8 hk rfl rfl rfl rfl rfl
theorem u21_21_10 {d : Nat} {R : gR} {μ : gM} {L : List Value} {o : Nat} {a0 a1 : Int32} {s0 s1 : Value} (hk : gc_kd o = 10) : gc_W (gc_S d) cX0_weptBy 0 0 R 21 L [.int a1, .int a0, .ref o, s0, s1] μ ↔ gc_S d 19 [.ref o, .int a0, .int a1] μ (fun v μ' => gc_W (gc_S d) cX0_weptBy 0 0 R 24 L (v.toList ++ [s0, s1]) μ') := us_virt dX0_weptBy_21 gn_0_104 gc_0_104_10 hk rfl rfl rfl rfl rfl
theorem u21_24 {d : Nat} {R : gR} {μ : gM} {l0 l1 : Value} {st : List Value} {x : Int32}  : gc_W (gc_S d) cX0_weptBy 0 0 R 24 [l0, l1, .int x] st μ ↔ gc_W (gc_S d) cX0_weptBy 0 0 R 25 [l0, l1, .int x] (.int x :: st) μ := us_iload_n dX0_weptBy_24 rfl
theorem u21_25 {d : Nat} {R : gR} {μ : gM} {l1 l2 : Value} {st : List Value} {x : Nat}  : gc_W (gc_S d) cX0_weptBy 0 0 R 25 [.ref x, l1, l2] st μ ↔ gc_W (gc_S d) cX0_weptBy 0 0 R 26 [.ref x, l1, l2] (.ref x :: st) μ := us_aload_n dX0_weptBy_25 rfl
theorem u21_26 {d : Nat} {R : gR} {μ : gM} {L : List Value} {st : List Value} {o : Nat} (hk : gc_kd o = 0) : gc_W (gc_S d) cX0_weptBy 0 0 R 26 L (.ref o :: st) μ ↔ gc_W (gc_S d) cX0_weptBy 0 0 R 29 L (gc_fv o 12 μ :: st) μ := us_getf dX0_weptBy_26 gf_0_66 hk
theorem u21_29 {d : Nat} {R : gR} {μ : gM} {L : List Value} {st : List Value}   : gc_W (gc_S d) cX0_weptBy 0 0 R 29 L st μ ↔ gc_W (gc_S d) cX0_weptBy 0 0 R 31 L (.int 8 :: st) μ := us_bipush dX0_weptBy_29 ci_bipush_8
theorem u21_31 {d : Nat} {R : gR} {μ : gM} {L : List Value} {st : List Value} {x y : Int32}  : gc_W (gc_S d) cX0_weptBy 0 0 R 31 L (.int y :: .int x :: st) μ ↔ (¬ y = 0 ∧ gc_W (gc_S d) cX0_weptBy 0 0 R 32 L (.int (x - x / y * y) :: st) μ) := us_irem dX0_weptBy_31
theorem u21_32 {d : Nat} {R : gR} {μ : gM} {L : List Value} {o : Nat} {a0 a1 a2 a3 : Int32} (hk : gc_kd o = 0) : gc_W (gc_S d) cX0_weptBy 0 0 R 32 L [.int a3, .int a2, .int a1, .int a0, .ref o] μ ↔ gc_S d 13 [.ref o, .int a0, .int a1, .int a2, .int a3] μ (fun v μ' => gc_W (gc_S d) cX0_weptBy 0 0 R 35 L (v.toList ++ []) μ') := us_virt dX0_weptBy_32 gn_0_110 gc_0_110_0 hk rfl rfl rfl rfl rfl
theorem u21_35 {d : Nat} {R : gR} {μ : gM} {L : List Value} {v : Int32}  : gc_W (gc_S d) cX0_weptBy 0 0 R 35 L [.int v] μ ↔ R (some (.int v)) μ := us_iret dX0_weptBy_35 rfl
theorem s21 {d : Nat} {R : gR} {μ : gM} {o : Nat} {a0 : Int32} : gc_S (d + 1) 21 [.ref o, .int a0] μ R ↔ gc_W (gc_S d) cX0_weptBy 0 0 R 0 [.ref o, .int a0, .retAddr 0] [] μ := us_call (gm_21) rfl rfl
theorem dX0_seepBetween_0 : decode cX0_seepBetween 0 = .ok (.aload_n 0, 1) := by decide +kernel
theorem dX0_seepBetween_1 : decode cX0_seepBetween 1 = .ok (.getfield 63, 3) := by decide +kernel
theorem dX0_seepBetween_4 : decode cX0_seepBetween 4 = .ok (.iload_n 1, 1) := by decide +kernel
theorem dX0_seepBetween_5 : decode cX0_seepBetween 5 = .ok (.ishr, 1) := by decide +kernel
theorem dX0_seepBetween_6 : decode cX0_seepBetween 6 = .ok (.aload_n 0, 1) := by decide +kernel
theorem dX0_seepBetween_7 : decode cX0_seepBetween 7 = .ok (.getfield 63, 3) := by decide +kernel
theorem dX0_seepBetween_10 : decode cX0_seepBetween 10 = .ok (.iload_n 2, 1) := by decide +kernel
theorem dX0_seepBetween_11 : decode cX0_seepBetween 11 = .ok (.ishr, 1) := by decide +kernel
theorem dX0_seepBetween_12 : decode cX0_seepBetween 12 = .ok (.ior, 1) := by decide +kernel
theorem dX0_seepBetween_13 : decode cX0_seepBetween 13 = .ok (.iconst 1, 1) := by decide +kernel
theorem dX0_seepBetween_14 : decode cX0_seepBetween 14 = .ok (.iand, 1) := by decide +kernel
theorem dX0_seepBetween_15 : decode cX0_seepBetween 15 = .ok (.iconst 1, 1) := by decide +kernel
theorem dX0_seepBetween_16 : decode cX0_seepBetween 16 = .ok (.if_icmp .ne 4, 3) := by decide +kernel
theorem dX0_seepBetween_19 : decode cX0_seepBetween 19 = .ok (.return_, 1) := by decide +kernel
theorem dX0_seepBetween_20 : decode cX0_seepBetween 20 = .ok (.aload_n 0, 1) := by decide +kernel
theorem dX0_seepBetween_21 : decode cX0_seepBetween 21 = .ok (.getfield 15, 3) := by decide +kernel
theorem dX0_seepBetween_24 : decode cX0_seepBetween 24 = .ok (.iload_n 1, 1) := by decide +kernel
theorem dX0_seepBetween_25 : decode cX0_seepBetween 25 = .ok (.iaload, 1) := by decide +kernel
theorem dX0_seepBetween_26 : decode cX0_seepBetween 26 = .ok (.aload_n 0, 1) := by decide +kernel
theorem dX0_seepBetween_27 : decode cX0_seepBetween 27 = .ok (.getfield 15, 3) := by decide +kernel
theorem dX0_seepBetween_30 : decode cX0_seepBetween 30 = .ok (.iload_n 2, 1) := by decide +kernel
theorem dX0_seepBetween_31 : decode cX0_seepBetween 31 = .ok (.iaload, 1) := by decide +kernel
theorem dX0_seepBetween_32 : decode cX0_seepBetween 32 = .ok (.isub, 1) := by decide +kernel
theorem dX0_seepBetween_33 : decode cX0_seepBetween 33 = .ok (.istore_n 3, 1) := by decide +kernel
theorem dX0_seepBetween_34 : decode cX0_seepBetween 34 = .ok (.iload_n 3, 1) := by decide +kernel
theorem dX0_seepBetween_35 : decode cX0_seepBetween 35 = .ok (.bipush 10, 2) := by decide +kernel
theorem dX0_seepBetween_37 : decode cX0_seepBetween 37 = .ok (.if_icmp .lt 26, 3) := by decide +kernel
theorem dX0_seepBetween_40 : decode cX0_seepBetween 40 = .ok (.aload_n 0, 1) := by decide +kernel
theorem dX0_seepBetween_41 : decode cX0_seepBetween 41 = .ok (.getfield 9, 3) := by decide +kernel
theorem dX0_seepBetween_44 : decode cX0_seepBetween 44 = .ok (.iload_n 1, 1) := by decide +kernel
theorem dX0_seepBetween_45 : decode cX0_seepBetween 45 = .ok (.dup2, 1) := by decide +kernel
theorem dX0_seepBetween_46 : decode cX0_seepBetween 46 = .ok (.iaload, 1) := by decide +kernel
theorem dX0_seepBetween_47 : decode cX0_seepBetween 47 = .ok (.iconst 1, 1) := by decide +kernel
theorem dX0_seepBetween_48 : decode cX0_seepBetween 48 = .ok (.isub, 1) := by decide +kernel
theorem dX0_seepBetween_49 : decode cX0_seepBetween 49 = .ok (.iastore, 1) := by decide +kernel
theorem dX0_seepBetween_50 : decode cX0_seepBetween 50 = .ok (.aload_n 0, 1) := by decide +kernel
theorem dX0_seepBetween_51 : decode cX0_seepBetween 51 = .ok (.getfield 9, 3) := by decide +kernel
theorem dX0_seepBetween_54 : decode cX0_seepBetween 54 = .ok (.iload_n 2, 1) := by decide +kernel
theorem dX0_seepBetween_55 : decode cX0_seepBetween 55 = .ok (.dup2, 1) := by decide +kernel
theorem dX0_seepBetween_56 : decode cX0_seepBetween 56 = .ok (.iaload, 1) := by decide +kernel
theorem dX0_seepBetween_57 : decode cX0_seepBetween 57 = .ok (.iconst 1, 1) := by decide +kernel
theorem dX0_seepBetween_58 : decode cX0_seepBetween 58 = .ok (.iadd, 1) := by decide +kernel
theorem dX0_seepBetween_59 : decode cX0_seepBetween 59 = .ok (.iastore, 1) := by decide +kernel
theorem dX0_seepBetween_60 : decode cX0_seepBetween 60 = .ok (.goto 29, 3) := by decide +kernel
theorem dX0_seepBetween_63 : decode cX0_seepBetween 63 = .ok (.iload_n 3, 1) := by decide +kernel
theorem dX0_seepBetween_64 : decode cX0_seepBetween 64 = .ok (.bipush (-10), 2) := by decide +kernel
theorem dX0_seepBetween_66 : decode cX0_seepBetween 66 = .ok (.if_icmp .gt 23, 3) := by decide +kernel
theorem dX0_seepBetween_69 : decode cX0_seepBetween 69 = .ok (.aload_n 0, 1) := by decide +kernel
theorem dX0_seepBetween_70 : decode cX0_seepBetween 70 = .ok (.getfield 9, 3) := by decide +kernel
theorem dX0_seepBetween_73 : decode cX0_seepBetween 73 = .ok (.iload_n 1, 1) := by decide +kernel
theorem dX0_seepBetween_74 : decode cX0_seepBetween 74 = .ok (.dup2, 1) := by decide +kernel
theorem dX0_seepBetween_75 : decode cX0_seepBetween 75 = .ok (.iaload, 1) := by decide +kernel
theorem dX0_seepBetween_76 : decode cX0_seepBetween 76 = .ok (.iconst 1, 1) := by decide +kernel
theorem dX0_seepBetween_77 : decode cX0_seepBetween 77 = .ok (.iadd, 1) := by decide +kernel
theorem dX0_seepBetween_78 : decode cX0_seepBetween 78 = .ok (.iastore, 1) := by decide +kernel
theorem dX0_seepBetween_79 : decode cX0_seepBetween 79 = .ok (.aload_n 0, 1) := by decide +kernel
theorem dX0_seepBetween_80 : decode cX0_seepBetween 80 = .ok (.getfield 9, 3) := by decide +kernel
theorem dX0_seepBetween_83 : decode cX0_seepBetween 83 = .ok (.iload_n 2, 1) := by decide +kernel
theorem dX0_seepBetween_84 : decode cX0_seepBetween 84 = .ok (.dup2, 1) := by decide +kernel
theorem dX0_seepBetween_85 : decode cX0_seepBetween 85 = .ok (.iaload, 1) := by decide +kernel
theorem dX0_seepBetween_86 : decode cX0_seepBetween 86 = .ok (.iconst 1, 1) := by decide +kernel
theorem dX0_seepBetween_87 : decode cX0_seepBetween 87 = .ok (.isub, 1) := by decide +kernel
theorem dX0_seepBetween_88 : decode cX0_seepBetween 88 = .ok (.iastore, 1) := by decide +kernel
theorem dX0_seepBetween_89 : decode cX0_seepBetween 89 = .ok (.return_, 1) := by decide +kernel
theorem u26_0 {d : Nat} {R : gR} {μ : gM} {l1 l2 l3 : Value} {st : List Value} {x : Nat}  : gc_W (gc_S d) cX0_seepBetween 0 2 R 0 [.ref x, l1, l2, l3] st μ ↔ gc_W (gc_S d) cX0_seepBetween 0 2 R 1 [.ref x, l1, l2, l3] (.ref x :: st) μ := us_aload_n dX0_seepBetween_0 rfl
theorem u26_1 {d : Nat} {R : gR} {μ : gM} {L : List Value} {st : List Value} {o : Nat} (hk : gc_kd o = 0) : gc_W (gc_S d) cX0_seepBetween 0 2 R 1 L (.ref o :: st) μ ↔ gc_W (gc_S d) cX0_seepBetween 0 2 R 4 L (gc_fv o 11 μ :: st) μ := us_getf dX0_seepBetween_1 gf_0_63 hk
theorem u26_4 {d : Nat} {R : gR} {μ : gM} {l0 l2 l3 : Value} {st : List Value} {x : Int32}  : gc_W (gc_S d) cX0_seepBetween 0 2 R 4 [l0, .int x, l2, l3] st μ ↔ gc_W (gc_S d) cX0_seepBetween 0 2 R 5 [l0, .int x, l2, l3] (.int x :: st) μ := us_iload_n dX0_seepBetween_4 rfl
theorem u26_5 {d : Nat} {R : gR} {μ : gM} {L : List Value} {st : List Value} {x y : Int32}  : gc_W (gc_S d) cX0_seepBetween 0 2 R 5 L (.int y :: .int x :: st) μ ↔ gc_W (gc_S d) cX0_seepBetween 0 2 R 6 L (.int (x >>> (y &&& 31)) :: st) μ := us_ishr dX0_seepBetween_5
theorem u26_6 {d : Nat} {R : gR} {μ : gM} {l1 l2 l3 : Value} {st : List Value} {x : Nat}  : gc_W (gc_S d) cX0_seepBetween 0 2 R 6 [.ref x, l1, l2, l3] st μ ↔ gc_W (gc_S d) cX0_seepBetween 0 2 R 7 [.ref x, l1, l2, l3] (.ref x :: st) μ := us_aload_n dX0_seepBetween_6 rfl
theorem u26_7 {d : Nat} {R : gR} {μ : gM} {L : List Value} {st : List Value} {o : Nat} (hk : gc_kd o = 0) : gc_W (gc_S d) cX0_seepBetween 0 2 R 7 L (.ref o :: st) μ ↔ gc_W (gc_S d) cX0_seepBetween 0 2 R 10 L (gc_fv o 11 μ :: st) μ := us_getf dX0_seepBetween_7 gf_0_63 hk
theorem u26_10 {d : Nat} {R : gR} {μ : gM} {l0 l1 l3 : Value} {st : List Value} {x : Int32}  : gc_W (gc_S d) cX0_seepBetween 0 2 R 10 [l0, l1, .int x, l3] st μ ↔ gc_W (gc_S d) cX0_seepBetween 0 2 R 11 [l0, l1, .int x, l3] (.int x :: st) μ := us_iload_n dX0_seepBetween_10 rfl
theorem u26_11 {d : Nat} {R : gR} {μ : gM} {L : List Value} {st : List Value} {x y : Int32}  : gc_W (gc_S d) cX0_seepBetween 0 2 R 11 L (.int y :: .int x :: st) μ ↔ gc_W (gc_S d) cX0_seepBetween 0 2 R 12 L (.int (x >>> (y &&& 31)) :: st) μ := us_ishr dX0_seepBetween_11
theorem u26_12 {d : Nat} {R : gR} {μ : gM} {L : List Value} {st : List Value} {x y : Int32}  : gc_W (gc_S d) cX0_seepBetween 0 2 R 12 L (.int y :: .int x :: st) μ ↔ gc_W (gc_S d) cX0_seepBetween 0 2 R 13 L (.int (x ||| y) :: st) μ := us_ior dX0_seepBetween_12
theorem u26_13 {d : Nat} {R : gR} {μ : gM} {L : List Value} {st : List Value}   : gc_W (gc_S d) cX0_seepBetween 0 2 R 13 L st μ ↔ gc_W (gc_S d) cX0_seepBetween 0 2 R 14 L (.int 1 :: st) μ := us_iconst dX0_seepBetween_13 ci_iconst_1
theorem u26_14 {d : Nat} {R : gR} {μ : gM} {L : List Value} {st : List Value} {x y : Int32}  : gc_W (gc_S d) cX0_seepBetween 0 2 R 14 L (.int y :: .int x :: st) μ ↔ gc_W (gc_S d) cX0_seepBetween 0 2 R 15 L (.int (x &&& y) :: st) μ := us_iand dX0_seepBetween_14
theorem u26_15 {d : Nat} {R : gR} {μ : gM} {L : List Value} {st : List Value}   : gc_W (gc_S d) cX0_seepBetween 0 2 R 15 L st μ ↔ gc_W (gc_S d) cX0_seepBetween 0 2 R 16 L (.int 1 :: st) μ := us_iconst dX0_seepBetween_15 ci_iconst_1
theorem u26_16 {d : Nat} {R : gR} {μ : gM} {L : List Value} {st : List Value} {x y : Int32}  : gc_W (gc_S d) cX0_seepBetween 0 2 R 16 L (.int y :: .int x :: st) μ ↔ if x = y then gc_W (gc_S d) cX0_seepBetween 0 2 R 19 L st μ else gc_W (gc_S d) cX0_seepBetween 0 2 R 20 L st μ := us_icne dX0_seepBetween_16 rfl
theorem u26_19 {d : Nat} {R : gR} {μ : gM} {L : List Value}   : gc_W (gc_S d) cX0_seepBetween 0 2 R 19 L [] μ ↔ R none μ := us_vret dX0_seepBetween_19 rfl
theorem u26_20 {d : Nat} {R : gR} {μ : gM} {l1 l2 l3 : Value} {st : List Value} {x : Nat}  : gc_W (gc_S d) cX0_seepBetween 0 2 R 20 [.ref x, l1, l2, l3] st μ ↔ gc_W (gc_S d) cX0_seepBetween 0 2 R 21 [.ref x, l1, l2, l3] (.ref x :: st) μ := us_aload_n dX0_seepBetween_20 rfl
theorem u26_21 {d : Nat} {R : gR} {μ : gM} {L : List Value} {st : List Value} {o : Nat} (hk : gc_kd o = 0) : gc_W (gc_S d) cX0_seepBetween 0 2 R 21 L (.ref o :: st) μ ↔ gc_W (gc_S d) cX0_seepBetween 0 2 R 24 L (gc_fv o 3 μ :: st) μ := us_getf dX0_seepBetween_21 gf_0_15 hk
theorem u26_24 {d : Nat} {R : gR} {μ : gM} {l0 l2 l3 : Value} {st : List Value} {x : Int32}  : gc_W (gc_S d) cX0_seepBetween 0 2 R 24 [l0, .int x, l2, l3] st μ ↔ gc_W (gc_S d) cX0_seepBetween 0 2 R 25 [l0, .int x, l2, l3] (.int x :: st) μ := us_iload_n dX0_seepBetween_24 rfl
theorem u26_25 {d : Nat} {R : gR} {μ : gM} {L : List Value} {st : List Value} {o : Nat} {i : Int32} (hk : gc_kd o = 20) : gc_W (gc_S d) cX0_seepBetween 0 2 R 25 L (.int i :: .ref o :: st) μ ↔ (vp_in i (gc_al o) ∧ gc_W (gc_S d) cX0_seepBetween 0 2 R 26 L (.int (μ o i.toNatClampNeg) :: st) μ) := us_iald dX0_seepBetween_25 hk
theorem u26_26 {d : Nat} {R : gR} {μ : gM} {l1 l2 l3 : Value} {st : List Value} {x : Nat}  : gc_W (gc_S d) cX0_seepBetween 0 2 R 26 [.ref x, l1, l2, l3] st μ ↔ gc_W (gc_S d) cX0_seepBetween 0 2 R 27 [.ref x, l1, l2, l3] (.ref x :: st) μ := us_aload_n dX0_seepBetween_26 rfl
theorem u26_27 {d : Nat} {R : gR} {μ : gM} {L : List Value} {st : List Value} {o : Nat} (hk : gc_kd o = 0) : gc_W (gc_S d) cX0_seepBetween 0 2 R 27 L (.ref o :: st) μ ↔ gc_W (gc_S d) cX0_seepBetween 0 2 R 30 L (gc_fv o 3 μ :: st) μ := us_getf dX0_seepBetween_27 gf_0_15 hk
theorem u26_30 {d : Nat} {R : gR} {μ : gM} {l0 l1 l3 : Value} {st : List Value} {x : Int32}  : gc_W (gc_S d) cX0_seepBetween 0 2 R 30 [l0, l1, .int x, l3] st μ ↔ gc_W (gc_S d) cX0_seepBetween 0 2 R 31 [l0, l1, .int x, l3] (.int x :: st) μ := us_iload_n dX0_seepBetween_30 rfl
theorem u26_31 {d : Nat} {R : gR} {μ : gM} {L : List Value} {st : List Value} {o : Nat} {i : Int32} (hk : gc_kd o = 20) : gc_W (gc_S d) cX0_seepBetween 0 2 R 31 L (.int i :: .ref o :: st) μ ↔ (vp_in i (gc_al o) ∧ gc_W (gc_S d) cX0_seepBetween 0 2 R 32 L (.int (μ o i.toNatClampNeg) :: st) μ) := us_iald dX0_seepBetween_31 hk
theorem u26_32 {d : Nat} {R : gR} {μ : gM} {L : List Value} {st : List Value} {x y : Int32}  : gc_W (gc_S d) cX0_seepBetween 0 2 R 32 L (.int y :: .int x :: st) μ ↔ gc_W (gc_S d) cX0_seepBetween 0 2 R 33 L (.int (x - y) :: st) μ := us_isub dX0_seepBetween_32
theorem u26_33 {d : Nat} {R : gR} {μ : gM} {l0 l1 l2 l3 : Value} {st : List Value} {x : Int32} (hs : gc_sk l3 = true) : gc_W (gc_S d) cX0_seepBetween 0 2 R 33 [l0, l1, l2, l3] (.int x :: st) μ ↔ gc_W (gc_S d) cX0_seepBetween 0 2 R 34 [l0, l1, l2, .int x] st μ := us_istore_n dX0_seepBetween_33 rfl hs
theorem u26_34 {d : Nat} {R : gR} {μ : gM} {l0 l1 l2 : Value} {st : List Value} {x : Int32}  : gc_W (gc_S d) cX0_seepBetween 0 2 R 34 [l0, l1, l2, .int x] st μ ↔ gc_W (gc_S d) cX0_seepBetween 0 2 R 35 [l0, l1, l2, .int x] (.int x :: st) μ := us_iload_n dX0_seepBetween_34 rfl
theorem u26_35 {d : Nat} {R : gR} {μ : gM} {L : List Value} {st : List Value}   : gc_W (gc_S d) cX0_seepBetween 0 2 R 35 L st μ ↔ gc_W (gc_S d) cX0_seepBetween 0 2 R 37 L (.int 10 :: st) μ := us_bipush dX0_seepBetween_35 ci_bipush_10
theorem u26_37 {d : Nat} {R : gR} {μ : gM} {L : List Value} {st : List Value} {x y : Int32}  : gc_W (gc_S d) cX0_seepBetween 0 2 R 37 L (.int y :: .int x :: st) μ ↔ if x < y then gc_W (gc_S d) cX0_seepBetween 0 2 R 63 L st μ else gc_W (gc_S d) cX0_seepBetween 0 2 R 40 L st μ := us_iclt dX0_seepBetween_37 rfl
theorem u26_40 {d : Nat} {R : gR} {μ : gM} {l1 l2 l3 : Value} {st : List Value} {x : Nat}  : gc_W (gc_S d) cX0_seepBetween 0 2 R 40 [.ref x, l1, l2, l3] st μ ↔ gc_W (gc_S d) cX0_seepBetween 0 2 R 41 [.ref x, l1, l2, l3] (.ref x :: st) μ := us_aload_n dX0_seepBetween_40 rfl
theorem u26_41 {d : Nat} {R : gR} {μ : gM} {L : List Value} {st : List Value} {o : Nat} (hk : gc_kd o = 0) : gc_W (gc_S d) cX0_seepBetween 0 2 R 41 L (.ref o :: st) μ ↔ gc_W (gc_S d) cX0_seepBetween 0 2 R 44 L (gc_fv o 2 μ :: st) μ := us_getf dX0_seepBetween_41 gf_0_9 hk
theorem u26_44 {d : Nat} {R : gR} {μ : gM} {l0 l2 l3 : Value} {st : List Value} {x : Int32}  : gc_W (gc_S d) cX0_seepBetween 0 2 R 44 [l0, .int x, l2, l3] st μ ↔ gc_W (gc_S d) cX0_seepBetween 0 2 R 45 [l0, .int x, l2, l3] (.int x :: st) μ := us_iload_n dX0_seepBetween_44 rfl
theorem u26_45 {d : Nat} {R : gR} {μ : gM} {L : List Value} {st : List Value} {x : Int32} {o : Nat}  : gc_W (gc_S d) cX0_seepBetween 0 2 R 45 L (.int x :: .ref o :: st) μ ↔ gc_W (gc_S d) cX0_seepBetween 0 2 R 46 L (.int x :: .ref o :: .int x :: .ref o :: st) μ := us_dup2 dX0_seepBetween_45
theorem u26_46 {d : Nat} {R : gR} {μ : gM} {L : List Value} {st : List Value} {o : Nat} {i : Int32} (hk : gc_kd o = 20) : gc_W (gc_S d) cX0_seepBetween 0 2 R 46 L (.int i :: .ref o :: st) μ ↔ (vp_in i (gc_al o) ∧ gc_W (gc_S d) cX0_seepBetween 0 2 R 47 L (.int (μ o i.toNatClampNeg) :: st) μ) := us_iald dX0_seepBetween_46 hk
theorem u26_47 {d : Nat} {R : gR} {μ : gM} {L : List Value} {st : List Value}   : gc_W (gc_S d) cX0_seepBetween 0 2 R 47 L st μ ↔ gc_W (gc_S d) cX0_seepBetween 0 2 R 48 L (.int 1 :: st) μ := us_iconst dX0_seepBetween_47 ci_iconst_1
theorem u26_48 {d : Nat} {R : gR} {μ : gM} {L : List Value} {st : List Value} {x y : Int32}  : gc_W (gc_S d) cX0_seepBetween 0 2 R 48 L (.int y :: .int x :: st) μ ↔ gc_W (gc_S d) cX0_seepBetween 0 2 R 49 L (.int (x - y) :: st) μ := us_isub dX0_seepBetween_48
theorem u26_49 {d : Nat} {R : gR} {μ : gM} {L : List Value} {st : List Value} {o : Nat} {i x : Int32} (hk : gc_kd o = 20) : gc_W (gc_S d) cX0_seepBetween 0 2 R 49 L (.int x :: .int i :: .ref o :: st) μ ↔ (vp_in i (gc_al o) ∧ gc_W (gc_S d) cX0_seepBetween 0 2 R 50 L st (gc_up μ o i.toNatClampNeg x)) := us_iast dX0_seepBetween_49 hk
theorem u26_50 {d : Nat} {R : gR} {μ : gM} {l1 l2 l3 : Value} {st : List Value} {x : Nat}  : gc_W (gc_S d) cX0_seepBetween 0 2 R 50 [.ref x, l1, l2, l3] st μ ↔ gc_W (gc_S d) cX0_seepBetween 0 2 R 51 [.ref x, l1, l2, l3] (.ref x :: st) μ := us_aload_n dX0_seepBetween_50 rfl
theorem u26_51 {d : Nat} {R : gR} {μ : gM} {L : List Value} {st : List Value} {o : Nat} (hk : gc_kd o = 0) : gc_W (gc_S d) cX0_seepBetween 0 2 R 51 L (.ref o :: st) μ ↔ gc_W (gc_S d) cX0_seepBetween 0 2 R 54 L (gc_fv o 2 μ :: st) μ := us_getf dX0_seepBetween_51 gf_0_9 hk
theorem u26_54 {d : Nat} {R : gR} {μ : gM} {l0 l1 l3 : Value} {st : List Value} {x : Int32}  : gc_W (gc_S d) cX0_seepBetween 0 2 R 54 [l0, l1, .int x, l3] st μ ↔ gc_W (gc_S d) cX0_seepBetween 0 2 R 55 [l0, l1, .int x, l3] (.int x :: st) μ := us_iload_n dX0_seepBetween_54 rfl
theorem u26_55 {d : Nat} {R : gR} {μ : gM} {L : List Value} {st : List Value} {x : Int32} {o : Nat}  : gc_W (gc_S d) cX0_seepBetween 0 2 R 55 L (.int x :: .ref o :: st) μ ↔ gc_W (gc_S d) cX0_seepBetween 0 2 R 56 L (.int x :: .ref o :: .int x :: .ref o :: st) μ := us_dup2 dX0_seepBetween_55
theorem u26_56 {d : Nat} {R : gR} {μ : gM} {L : List Value} {st : List Value} {o : Nat} {i : Int32} (hk : gc_kd o = 20) : gc_W (gc_S d) cX0_seepBetween 0 2 R 56 L (.int i :: .ref o :: st) μ ↔ (vp_in i (gc_al o) ∧ gc_W (gc_S d) cX0_seepBetween 0 2 R 57 L (.int (μ o i.toNatClampNeg) :: st) μ) := us_iald dX0_seepBetween_56 hk
theorem u26_57 {d : Nat} {R : gR} {μ : gM} {L : List Value} {st : List Value}   : gc_W (gc_S d) cX0_seepBetween 0 2 R 57 L st μ ↔ gc_W (gc_S d) cX0_seepBetween 0 2 R 58 L (.int 1 :: st) μ := us_iconst dX0_seepBetween_57 ci_iconst_1
theorem u26_58 {d : Nat} {R : gR} {μ : gM} {L : List Value} {st : List Value} {x y : Int32}  : gc_W (gc_S d) cX0_seepBetween 0 2 R 58 L (.int y :: .int x :: st) μ ↔ gc_W (gc_S d) cX0_seepBetween 0 2 R 59 L (.int (x + y) :: st) μ := us_iadd dX0_seepBetween_58
theorem u26_59 {d : Nat} {R : gR} {μ : gM} {L : List Value} {st : List Value} {o : Nat} {i x : Int32} (hk : gc_kd o = 20) : gc_W (gc_S d) cX0_seepBetween 0 2 R 59 L (.int x :: .int i :: .ref o :: st) μ ↔ (vp_in i (gc_al o) ∧ gc_W (gc_S d) cX0_seepBetween 0 2 R 60 L st (gc_up μ o i.toNatClampNeg x)) := us_iast dX0_seepBetween_59 hk
theorem u26_60 {d : Nat} {R : gR} {μ : gM} {L : List Value} {st : List Value}  : gc_W (gc_S d) cX0_seepBetween 0 2 R 60 L st μ ↔ gc_W (gc_S d) cX0_seepBetween 0 2 R 89 L st μ := us_goto dX0_seepBetween_60 rfl
theorem u26_63 {d : Nat} {R : gR} {μ : gM} {l0 l1 l2 : Value} {st : List Value} {x : Int32}  : gc_W (gc_S d) cX0_seepBetween 0 2 R 63 [l0, l1, l2, .int x] st μ ↔ gc_W (gc_S d) cX0_seepBetween 0 2 R 64 [l0, l1, l2, .int x] (.int x :: st) μ := us_iload_n dX0_seepBetween_63 rfl
theorem u26_64 {d : Nat} {R : gR} {μ : gM} {L : List Value} {st : List Value}   : gc_W (gc_S d) cX0_seepBetween 0 2 R 64 L st μ ↔ gc_W (gc_S d) cX0_seepBetween 0 2 R 66 L (.int (-10) :: st) μ := us_bipush dX0_seepBetween_64 ci_bipush_m10
theorem u26_66 {d : Nat} {R : gR} {μ : gM} {L : List Value} {st : List Value} {x y : Int32}  : gc_W (gc_S d) cX0_seepBetween 0 2 R 66 L (.int y :: .int x :: st) μ ↔ if y < x then gc_W (gc_S d) cX0_seepBetween 0 2 R 89 L st μ else gc_W (gc_S d) cX0_seepBetween 0 2 R 69 L st μ := us_icgt dX0_seepBetween_66 rfl
theorem u26_69 {d : Nat} {R : gR} {μ : gM} {l1 l2 l3 : Value} {st : List Value} {x : Nat}  : gc_W (gc_S d) cX0_seepBetween 0 2 R 69 [.ref x, l1, l2, l3] st μ ↔ gc_W (gc_S d) cX0_seepBetween 0 2 R 70 [.ref x, l1, l2, l3] (.ref x :: st) μ := us_aload_n dX0_seepBetween_69 rfl
theorem u26_70 {d : Nat} {R : gR} {μ : gM} {L : List Value} {st : List Value} {o : Nat} (hk : gc_kd o = 0) : gc_W (gc_S d) cX0_seepBetween 0 2 R 70 L (.ref o :: st) μ ↔ gc_W (gc_S d) cX0_seepBetween 0 2 R 73 L (gc_fv o 2 μ :: st) μ := us_getf dX0_seepBetween_70 gf_0_9 hk
theorem u26_73 {d : Nat} {R : gR} {μ : gM} {l0 l2 l3 : Value} {st : List Value} {x : Int32}  : gc_W (gc_S d) cX0_seepBetween 0 2 R 73 [l0, .int x, l2, l3] st μ ↔ gc_W (gc_S d) cX0_seepBetween 0 2 R 74 [l0, .int x, l2, l3] (.int x :: st) μ := us_iload_n dX0_seepBetween_73 rfl
theorem u26_74 {d : Nat} {R : gR} {μ : gM} {L : List Value} {st : List Value} {x : Int32} {o : Nat}  : gc_W (gc_S d) cX0_seepBetween 0 2 R 74 L (.int x :: .ref o :: st) μ ↔ gc_W (gc_S d) cX0_seepBetween 0 2 R 75 L (.int x :: .ref o :: .int x :: .ref o :: st) μ := us_dup2 dX0_seepBetween_74
theorem u26_75 {d : Nat} {R : gR} {μ : gM} {L : List Value} {st : List Value} {o : Nat} {i : Int32} (hk : gc_kd o = 20) : gc_W (gc_S d) cX0_seepBetween 0 2 R 75 L (.int i :: .ref o :: st) μ ↔ (vp_in i (gc_al o) ∧ gc_W (gc_S d) cX0_seepBetween 0 2 R 76 L (.int (μ o i.toNatClampNeg) :: st) μ) := us_iald dX0_seepBetween_75 hk
theorem u26_76 {d : Nat} {R : gR} {μ : gM} {L : List Value} {st : List Value}   : gc_W (gc_S d) cX0_seepBetween 0 2 R 76 L st μ ↔ gc_W (gc_S d) cX0_seepBetween 0 2 R 77 L (.int 1 :: st) μ := us_iconst dX0_seepBetween_76 ci_iconst_1
theorem u26_77 {d : Nat} {R : gR} {μ : gM} {L : List Value} {st : List Value} {x y : Int32}  : gc_W (gc_S d) cX0_seepBetween 0 2 R 77 L (.int y :: .int x :: st) μ ↔ gc_W (gc_S d) cX0_seepBetween 0 2 R 78 L (.int (x + y) :: st) μ := us_iadd dX0_seepBetween_77
theorem u26_78 {d : Nat} {R : gR} {μ : gM} {L : List Value} {st : List Value} {o : Nat} {i x : Int32} (hk : gc_kd o = 20) : gc_W (gc_S d) cX0_seepBetween 0 2 R 78 L (.int x :: .int i :: .ref o :: st) μ ↔ (vp_in i (gc_al o) ∧ gc_W (gc_S d) cX0_seepBetween 0 2 R 79 L st (gc_up μ o i.toNatClampNeg x)) := us_iast dX0_seepBetween_78 hk
theorem u26_79 {d : Nat} {R : gR} {μ : gM} {l1 l2 l3 : Value} {st : List Value} {x : Nat}  : gc_W (gc_S d) cX0_seepBetween 0 2 R 79 [.ref x, l1, l2, l3] st μ ↔ gc_W (gc_S d) cX0_seepBetween 0 2 R 80 [.ref x, l1, l2, l3] (.ref x :: st) μ := us_aload_n dX0_seepBetween_79 rfl
theorem u26_80 {d : Nat} {R : gR} {μ : gM} {L : List Value} {st : List Value} {o : Nat} (hk : gc_kd o = 0) : gc_W (gc_S d) cX0_seepBetween 0 2 R 80 L (.ref o :: st) μ ↔ gc_W (gc_S d) cX0_seepBetween 0 2 R 83 L (gc_fv o 2 μ :: st) μ := us_getf dX0_seepBetween_80 gf_0_9 hk
theorem u26_83 {d : Nat} {R : gR} {μ : gM} {l0 l1 l3 : Value} {st : List Value} {x : Int32}  : gc_W (gc_S d) cX0_seepBetween 0 2 R 83 [l0, l1, .int x, l3] st μ ↔ gc_W (gc_S d) cX0_seepBetween 0 2 R 84 [l0, l1, .int x, l3] (.int x :: st) μ := us_iload_n dX0_seepBetween_83 rfl
theorem u26_84 {d : Nat} {R : gR} {μ : gM} {L : List Value} {st : List Value} {x : Int32} {o : Nat}  : gc_W (gc_S d) cX0_seepBetween 0 2 R 84 L (.int x :: .ref o :: st) μ ↔ gc_W (gc_S d) cX0_seepBetween 0 2 R 85 L (.int x :: .ref o :: .int x :: .ref o :: st) μ := us_dup2 dX0_seepBetween_84
theorem u26_85 {d : Nat} {R : gR} {μ : gM} {L : List Value} {st : List Value} {o : Nat} {i : Int32} (hk : gc_kd o = 20) : gc_W (gc_S d) cX0_seepBetween 0 2 R 85 L (.int i :: .ref o :: st) μ ↔ (vp_in i (gc_al o) ∧ gc_W (gc_S d) cX0_seepBetween 0 2 R 86 L (.int (μ o i.toNatClampNeg) :: st) μ) := us_iald dX0_seepBetween_85 hk
theorem u26_86 {d : Nat} {R : gR} {μ : gM} {L : List Value} {st : List Value}   : gc_W (gc_S d) cX0_seepBetween 0 2 R 86 L st μ ↔ gc_W (gc_S d) cX0_seepBetween 0 2 R 87 L (.int 1 :: st) μ := us_iconst dX0_seepBetween_86 ci_iconst_1
theorem u26_87 {d : Nat} {R : gR} {μ : gM} {L : List Value} {st : List Value} {x y : Int32}  : gc_W (gc_S d) cX0_seepBetween 0 2 R 87 L (.int y :: .int x :: st) μ ↔ gc_W (gc_S d) cX0_seepBetween 0 2 R 88 L (.int (x - y) :: st) μ := us_isub dX0_seepBetween_87
theorem u26_88 {d : Nat} {R : gR} {μ : gM} {L : List Value} {st : List Value} {o : Nat} {i x : Int32} (hk : gc_kd o = 20) : gc_W (gc_S d) cX0_seepBetween 0 2 R 88 L (.int x :: .int i :: .ref o :: st) μ ↔ (vp_in i (gc_al o) ∧ gc_W (gc_S d) cX0_seepBetween 0 2 R 89 L st (gc_up μ o i.toNatClampNeg x)) := us_iast dX0_seepBetween_88 hk
theorem u26_89 {d : Nat} {R : gR} {μ : gM} {L : List Value}   : gc_W (gc_S d) cX0_seepBetween 0 2 R 89 L [] μ ↔ R none μ := us_vret dX0_seepBetween_89 rfl
theorem s26 {d : Nat} {R : gR} {μ : gM} {o : Nat} {a0 a1 : Int32} : gc_S (d + 1) 26 [.ref o, .int a0, .int a1] μ R ↔ gc_W (gc_S d) cX0_seepBetween 0 2 R 0 [.ref o, .int a0, .int a1, .retAddr 0] [] μ := us_call (gm_26) rfl rfl
theorem dX0_seep_0 : decode cX0_seep 0 = .ok (.aload_n 0, 1) := by decide +kernel
theorem dX0_seep_1 : decode cX0_seep 1 = .ok (.getfield 9, 3) := by decide +kernel
theorem dX0_seep_4 : decode cX0_seep 4 = .ok (.iconst 0, 1) := by decide +kernel
theorem dX0_seep_5 : decode cX0_seep 5 = .ok (.aload_n 0, 1) := by decide +kernel
theorem dX0_seep_6 : decode cX0_seep 6 = .ok (.getfield 15, 3) := by decide +kernel
theorem dX0_seep_9 : decode cX0_seep 9 = .ok (.iconst 0, 1) := by decide +kernel
theorem dX0_seep_10 : decode cX0_seep 10 = .ok (.bipush 16, 2) := by decide +kernel
theorem dX0_seep_12 : decode cX0_seep 12 = .ok (.invokestatic 57, 3) := by decide +kernel
theorem dX0_seep_15 : decode cX0_seep 15 = .ok (.iconst 0, 1) := by decide +kernel
theorem dX0_seep_16 : decode cX0_seep 16 = .ok (.istore_n 1, 1) := by decide +kernel
theorem dX0_seep_17 : decode cX0_seep 17 = .ok (.iload_n 1, 1) := by decide +kernel
theorem dX0_seep_18 : decode cX0_seep 18 = .ok (.bipush 16, 2) := by decide +kernel
theorem dX0_seep_20 : decode cX0_seep 20 = .ok (.if_icmp .ge 38, 3) := by decide +kernel
theorem dX0_seep_23 : decode cX0_seep 23 = .ok (.iload_n 1, 1) := by decide +kernel
theorem dX0_seep_24 : decode cX0_seep 24 = .ok (.iconst 4, 1) := by decide +kernel
theorem dX0_seep_25 : decode cX0_seep 25 = .ok (.irem, 1) := by decide +kernel
theorem dX0_seep_26 : decode cX0_seep 26 = .ok (.iconst 3, 1) := by decide +kernel
theorem dX0_seep_27 : decode cX0_seep 27 = .ok (.if_icmp .ge 11, 3) := by decide +kernel
theorem dX0_seep_30 : decode cX0_seep 30 = .ok (.aload_n 0, 1) := by decide +kernel
theorem dX0_seep_31 : decode cX0_seep 31 = .ok (.iload_n 1, 1) := by decide +kernel
theorem dX0_seep_32 : decode cX0_seep 32 = .ok (.iload_n 1, 1) := by decide +kernel
theorem dX0_seep_33 : decode cX0_seep 33 = .ok (.iconst 1, 1) := by decide +kernel
theorem dX0_seep_34 : decode cX0_seep 34 = .ok (.iadd, 1) := by decide +kernel
theorem dX0_seep_35 : decode cX0_seep 35 = .ok (.invokevirtual 129, 3) := by decide +kernel
theorem dX0_seep_38 : decode cX0_seep 38 = .ok (.iload_n 1, 1) := by decide +kernel
theorem dX0_seep_39 : decode cX0_seep 39 = .ok (.bipush 12, 2) := by decide +kernel
theorem dX0_seep_41 : decode cX0_seep 41 = .ok (.if_icmp .ge 11, 3) := by decide +kernel
theorem dX0_seep_44 : decode cX0_seep 44 = .ok (.aload_n 0, 1) := by decide +kernel
theorem dX0_seep_45 : decode cX0_seep 45 = .ok (.iload_n 1, 1) := by decide +kernel
theorem dX0_seep_46 : decode cX0_seep 46 = .ok (.iload_n 1, 1) := by decide +kernel
theorem dX0_seep_47 : decode cX0_seep 47 = .ok (.iconst 4, 1) := by decide +kernel
theorem dX0_seep_48 : decode cX0_seep 48 = .ok (.iadd, 1) := by decide +kernel
theorem dX0_seep_49 : decode cX0_seep 49 = .ok (.invokevirtual 129, 3) := by decide +kernel
theorem dX0_seep_52 : decode cX0_seep 52 = .ok (.iinc 1 1, 3) := by decide +kernel
theorem dX0_seep_55 : decode cX0_seep 55 = .ok (.goto (-38), 3) := by decide +kernel
theorem dX0_seep_58 : decode cX0_seep 58 = .ok (.return_, 1) := by decide +kernel
theorem u27_0 {d : Nat} {R : gR} {μ : gM} {l1 : Value} {st : List Value} {x : Nat}  : gc_W (gc_S d) cX0_seep 0 2 R 0 [.ref x, l1] st μ ↔ gc_W (gc_S d) cX0_seep 0 2 R 1 [.ref x, l1] (.ref x :: st) μ := us_aload_n dX0_seep_0 rfl
theorem u27_1 {d : Nat} {R : gR} {μ : gM} {L : List Value} {st : List Value} {o : Nat} (hk : gc_kd o = 0) : gc_W (gc_S d) cX0_seep 0 2 R 1 L (.ref o :: st) μ ↔ gc_W (gc_S d) cX0_seep 0 2 R 4 L (gc_fv o 2 μ :: st) μ := us_getf dX0_seep_1 gf_0_9 hk
theorem u27_4 {d : Nat} {R : gR} {μ : gM} {L : List Value} {st : List Value}   : gc_W (gc_S d) cX0_seep 0 2 R 4 L st μ ↔ gc_W (gc_S d) cX0_seep 0 2 R 5 L (.int 0 :: st) μ := us_iconst dX0_seep_4 ci_iconst_0
theorem u27_5 {d : Nat} {R : gR} {μ : gM} {l1 : Value} {st : List Value} {x : Nat}  : gc_W (gc_S d) cX0_seep 0 2 R 5 [.ref x, l1] st μ ↔ gc_W (gc_S d) cX0_seep 0 2 R 6 [.ref x, l1] (.ref x :: st) μ := us_aload_n dX0_seep_5 rfl
theorem u27_6 {d : Nat} {R : gR} {μ : gM} {L : List Value} {st : List Value} {o : Nat} (hk : gc_kd o = 0) : gc_W (gc_S d) cX0_seep 0 2 R 6 L (.ref o :: st) μ ↔ gc_W (gc_S d) cX0_seep 0 2 R 9 L (gc_fv o 3 μ :: st) μ := us_getf dX0_seep_6 gf_0_15 hk
theorem u27_9 {d : Nat} {R : gR} {μ : gM} {L : List Value} {st : List Value}   : gc_W (gc_S d) cX0_seep 0 2 R 9 L st μ ↔ gc_W (gc_S d) cX0_seep 0 2 R 10 L (.int 0 :: st) μ := us_iconst dX0_seep_9 ci_iconst_0
theorem u27_10 {d : Nat} {R : gR} {μ : gM} {L : List Value} {st : List Value}   : gc_W (gc_S d) cX0_seep 0 2 R 10 L st μ ↔ gc_W (gc_S d) cX0_seep 0 2 R 12 L (.int 16 :: st) μ := us_bipush dX0_seep_10 ci_bipush_16
theorem u27_12 {d : Nat} {R : gR} {μ : gM} {L : List Value} {o1 o2 : Nat} {sp dp z : Int32} (hk1 : gc_kd o1 = 20) (hk2 : gc_kd o2 = 20) : gc_W (gc_S d) cX0_seep 0 2 R 12 L [.int z, .int dp, .ref o2, .int sp, .ref o1] μ ↔ ((¬ sp < 0 ∧ ¬ dp < 0 ∧ ¬ z < 0 ∧ sp.toNatClampNeg + z.toNatClampNeg ≤ gc_al o1 ∧ dp.toNatClampNeg + z.toNatClampNeg ≤ gc_al o2) ∧ gc_W (gc_S d) cX0_seep 0 2 R 15 L [] (gc_cp μ o1 o2 sp.toNatClampNeg dp.toNatClampNeg z.toNatClampNeg)) := us_copy dX0_seep_12 gs_0_57 rfl hk1 hk2
theorem u27_15 {d : Nat} {R : gR} {μ : gM} {L : List Value} {st : List Value}   : gc_W (gc_S d) cX0_seep 0 2 R 15 L st μ ↔ gc_W (gc_S d) cX0_seep 0 2 R 16 L (.int 0 :: st) μ := us_iconst dX0_seep_15 ci_iconst_0
theorem u27_16 {d : Nat} {R : gR} {μ : gM} {l0 l1 : Value} {st : List Value} {x : Int32} (hs : gc_sk l1 = true) : gc_W (gc_S d) cX0_seep 0 2 R 16 [l0, l1] (.int x :: st) μ ↔ gc_W (gc_S d) cX0_seep 0 2 R 17 [l0, .int x] st μ := us_istore_n dX0_seep_16 rfl hs
theorem u27_17 {d : Nat} {R : gR} {μ : gM} {l0 : Value} {st : List Value} {x : Int32}  : gc_W (gc_S d) cX0_seep 0 2 R 17 [l0, .int x] st μ ↔ gc_W (gc_S d) cX0_seep 0 2 R 18 [l0, .int x] (.int x :: st) μ := us_iload_n dX0_seep_17 rfl
theorem u27_18 {d : Nat} {R : gR} {μ : gM} {L : List Value} {st : List Value}   : gc_W (gc_S d) cX0_seep 0 2 R 18 L st μ ↔ gc_W (gc_S d) cX0_seep 0 2 R 20 L (.int 16 :: st) μ := us_bipush dX0_seep_18 ci_bipush_16
theorem u27_20 {d : Nat} {R : gR} {μ : gM} {L : List Value} {st : List Value} {x y : Int32}  : gc_W (gc_S d) cX0_seep 0 2 R 20 L (.int y :: .int x :: st) μ ↔ if y ≤ x then gc_W (gc_S d) cX0_seep 0 2 R 58 L st μ else gc_W (gc_S d) cX0_seep 0 2 R 23 L st μ := us_icge dX0_seep_20 rfl
theorem u27_23 {d : Nat} {R : gR} {μ : gM} {l0 : Value} {st : List Value} {x : Int32}  : gc_W (gc_S d) cX0_seep 0 2 R 23 [l0, .int x] st μ ↔ gc_W (gc_S d) cX0_seep 0 2 R 24 [l0, .int x] (.int x :: st) μ := us_iload_n dX0_seep_23 rfl
theorem u27_24 {d : Nat} {R : gR} {μ : gM} {L : List Value} {st : List Value}   : gc_W (gc_S d) cX0_seep 0 2 R 24 L st μ ↔ gc_W (gc_S d) cX0_seep 0 2 R 25 L (.int 4 :: st) μ := us_iconst dX0_seep_24 ci_iconst_4
theorem u27_25 {d : Nat} {R : gR} {μ : gM} {L : List Value} {st : List Value} {x y : Int32}  : gc_W (gc_S d) cX0_seep 0 2 R 25 L (.int y :: .int x :: st) μ ↔ (¬ y = 0 ∧ gc_W (gc_S d) cX0_seep 0 2 R 26 L (.int (x - x / y * y) :: st) μ) := us_irem dX0_seep_25
theorem u27_26 {d : Nat} {R : gR} {μ : gM} {L : List Value} {st : List Value}   : gc_W (gc_S d) cX0_seep 0 2 R 26 L st μ ↔ gc_W (gc_S d) cX0_seep 0 2 R 27 L (.int 3 :: st) μ := us_iconst dX0_seep_26 ci_iconst_3
theorem u27_27 {d : Nat} {R : gR} {μ : gM} {L : List Value} {st : List Value} {x y : Int32}  : gc_W (gc_S d) cX0_seep 0 2 R 27 L (.int y :: .int x :: st) μ ↔ if y ≤ x then gc_W (gc_S d) cX0_seep 0 2 R 38 L st μ else gc_W (gc_S d) cX0_seep 0 2 R 30 L st μ := us_icge dX0_seep_27 rfl
theorem u27_30 {d : Nat} {R : gR} {μ : gM} {l1 : Value} {st : List Value} {x : Nat}  : gc_W (gc_S d) cX0_seep 0 2 R 30 [.ref x, l1] st μ ↔ gc_W (gc_S d) cX0_seep 0 2 R 31 [.ref x, l1] (.ref x :: st) μ := us_aload_n dX0_seep_30 rfl
theorem u27_31 {d : Nat} {R : gR} {μ : gM} {l0 : Value} {st : List Value} {x : Int32}  : gc_W (gc_S d) cX0_seep 0 2 R 31 [l0, .int x] st μ ↔ gc_W (gc_S d) cX0_seep 0 2 R 32 [l0, .int x] (.int x :: st) μ := us_iload_n dX0_seep_31 rfl
theorem u27_32 {d : Nat} {R : gR} {μ : gM} {l0 : Value} {st : List Value} {x : Int32}  : gc_W (gc_S d) cX0_seep 0 2 R 32 [l0, .int x] st μ ↔ gc_W (gc_S d) cX0_seep 0 2 R 33 [l0, .int x] (.int x :: st) μ := us_iload_n dX0_seep_32 rfl
theorem u27_33 {d : Nat} {R : gR} {μ : gM} {L : List Value} {st : List Value}   : gc_W (gc_S d) cX0_seep 0 2 R 33 L st μ ↔ gc_W (gc_S d) cX0_seep 0 2 R 34 L (.int 1 :: st) μ := us_iconst dX0_seep_33 ci_iconst_1
theorem u27_34 {d : Nat} {R : gR} {μ : gM} {L : List Value} {st : List Value} {x y : Int32}  : gc_W (gc_S d) cX0_seep 0 2 R 34 L (.int y :: .int x :: st) μ ↔ gc_W (gc_S d) cX0_seep 0 2 R 35 L (.int (x + y) :: st) μ := us_iadd dX0_seep_34
theorem u27_35 {d : Nat} {R : gR} {μ : gM} {L : List Value} {o : Nat} {a0 a1 : Int32} (hk : gc_kd o = 0) : gc_W (gc_S d) cX0_seep 0 2 R 35 L [.int a1, .int a0, .ref o] μ ↔ gc_S d 26 [.ref o, .int a0, .int a1] μ (fun v μ' => gc_W (gc_S d) cX0_seep 0 2 R 38 L (v.toList ++ []) μ') := us_virt dX0_seep_35 gn_0_129 gc_0_129_0 hk rfl rfl rfl rfl rfl
theorem u27_38 {d : Nat} {R : gR} {μ : gM} {l0 : Value} {st : List Value} {x : Int32}  : gc_W (gc_S d) cX0_seep 0 2 R 38 [l0, .int x] st μ ↔ gc_W (gc_S d) cX0_seep 0 2 R 39 [l0, .int x] (.int x :: st) μ := us_iload_n dX0_seep_38 rfl
theorem u27_39 {d : Nat} {R : gR} {μ : gM} {L : List Value} {st : List Value}   : gc_W (gc_S d) cX0_seep 0 2 R 39 L st μ ↔ gc_W (gc_S d) cX0_seep 0 2 R 41 L (.int 12 :: st) μ := us_bipush dX0_seep_39 ci_bipush_12
theorem u27_41 {d : Nat} {R : gR} {μ : gM} {L : List Value} {st : List Value} {x y : Int32}  : gc_W (gc_S d) cX0_seep 0 2 R 41 L (.int y :: .int x :: st) μ ↔ if y ≤ x then gc_W (gc_S d) cX0_seep 0 2 R 52 L st μ else gc_W (gc_S d) cX0_seep 0 2 R 44 L st μ := us_icge dX0_seep_41 rfl
theorem u27_44 {d : Nat} {R : gR} {μ : gM} {l1 : Value} {st : List Value} {x : Nat}  : gc_W (gc_S d) cX0_seep 0 2 R 44 [.ref x, l1] st μ ↔ gc_W (gc_S d) cX0_seep 0 2 R 45 [.ref x, l1] (.ref x :: st) μ := us_aload_n dX0_seep_44 rfl
theorem u27_45 {d : Nat} {R : gR} {μ : gM} {l0 : Value} {st : List Value} {x : Int32}  : gc_W (gc_S d) cX0_seep 0 2 R 45 [l0, .int x] st μ ↔ gc_W (gc_S d) cX0_seep 0 2 R 46 [l0, .int x] (.int x :: st) μ := us_iload_n dX0_seep_45 rfl
theorem u27_46 {d : Nat} {R : gR} {μ : gM} {l0 : Value} {st : List Value} {x : Int32}  : gc_W (gc_S d) cX0_seep 0 2 R 46 [l0, .int x] st μ ↔ gc_W (gc_S d) cX0_seep 0 2 R 47 [l0, .int x] (.int x :: st) μ := us_iload_n dX0_seep_46 rfl
theorem u27_47 {d : Nat} {R : gR} {μ : gM} {L : List Value} {st : List Value}   : gc_W (gc_S d) cX0_seep 0 2 R 47 L st μ ↔ gc_W (gc_S d) cX0_seep 0 2 R 48 L (.int 4 :: st) μ := us_iconst dX0_seep_47 ci_iconst_4
theorem u27_48 {d : Nat} {R : gR} {μ : gM} {L : List Value} {st : List Value} {x y : Int32}  : gc_W (gc_S d) cX0_seep 0 2 R 48 L (.int y :: .int x :: st) μ ↔ gc_W (gc_S d) cX0_seep 0 2 R 49 L (.int (x + y) :: st) μ := us_iadd dX0_seep_48
theorem u27_49 {d : Nat} {R : gR} {μ : gM} {L : List Value} {o : Nat} {a0 a1 : Int32} (hk : gc_kd o = 0) : gc_W (gc_S d) cX0_seep 0 2 R 49 L [.int a1, .int a0, .ref o] μ ↔ gc_S d 26 [.ref o, .int a0, .int a1] μ (fun v μ' => gc_W (gc_S d) cX0_seep 0 2 R 52 L (v.toList ++ []) μ') := us_virt dX0_seep_49 gn_0_129 gc_0_129_0 hk rfl rfl rfl rfl rfl
theorem u27_52 {d : Nat} {R : gR} {μ : gM} {l0 : Value} {st : List Value} {x : Int32}  : gc_W (gc_S d) cX0_seep 0 2 R 52 [l0, .int x] st μ ↔ gc_W (gc_S d) cX0_seep 0 2 R 55 [l0, .int (x + 1)] st μ := us_iinc dX0_seep_52 rfl ci_iinc_1
theorem u27_55 {d : Nat} {R : gR} {μ : gM} {L : List Value} {st : List Value}  : gc_W (gc_S d) cX0_seep 0 2 R 55 L st μ ↔ gc_W (gc_S d) cX0_seep 0 2 R 17 L st μ := us_goto dX0_seep_55 rfl
theorem u27_58 {d : Nat} {R : gR} {μ : gM} {L : List Value}   : gc_W (gc_S d) cX0_seep 0 2 R 58 L [] μ ↔ R none μ := us_vret dX0_seep_58 rfl
theorem s27 {d : Nat} {R : gR} {μ : gM} {o : Nat} : gc_S (d + 1) 27 [.ref o] μ R ↔ gc_W (gc_S d) cX0_seep 0 2 R 0 [.ref o, .retAddr 0] [] μ := us_call (gm_27) rfl rfl
theorem dX0_dryOut_0 : decode cX0_dryOut 0 = .ok (.aload_n 0, 1) := by decide +kernel
theorem dX0_dryOut_1 : decode cX0_dryOut 1 = .ok (.invokevirtual 133, 3) := by decide +kernel
theorem dX0_dryOut_4 : decode cX0_dryOut 4 = .ok (.istore_n 1, 1) := by decide +kernel
theorem dX0_dryOut_5 : decode cX0_dryOut 5 = .ok (.iconst 0, 1) := by decide +kernel
theorem dX0_dryOut_6 : decode cX0_dryOut 6 = .ok (.istore_n 2, 1) := by decide +kernel
theorem dX0_dryOut_7 : decode cX0_dryOut 7 = .ok (.iload_n 2, 1) := by decide +kernel
theorem dX0_dryOut_8 : decode cX0_dryOut 8 = .ok (.bipush 16, 2) := by decide +kernel
theorem dX0_dryOut_10 : decode cX0_dryOut 10 = .ok (.if_icmp .ge 63, 3) := by decide +kernel
theorem dX0_dryOut_13 : decode cX0_dryOut 13 = .ok (.aload_n 0, 1) := by decide +kernel
theorem dX0_dryOut_14 : decode cX0_dryOut 14 = .ok (.getfield 9, 3) := by decide +kernel
theorem dX0_dryOut_17 : decode cX0_dryOut 17 = .ok (.iload_n 2, 1) := by decide +kernel
theorem dX0_dryOut_18 : decode cX0_dryOut 18 = .ok (.iaload, 1) := by decide +kernel
theorem dX0_dryOut_19 : decode cX0_dryOut 19 = .ok (.ifCond .le 48, 3) := by decide +kernel
theorem dX0_dryOut_22 : decode cX0_dryOut 22 = .ok (.iload_n 2, 1) := by decide +kernel
theorem dX0_dryOut_23 : decode cX0_dryOut 23 = .ok (.invokestatic 136, 3) := by decide +kernel
theorem dX0_dryOut_26 : decode cX0_dryOut 26 = .ok (.iload_n 1, 1) := by decide +kernel
theorem dX0_dryOut_27 : decode cX0_dryOut 27 = .ok (.iand, 1) := by decide +kernel
theorem dX0_dryOut_28 : decode cX0_dryOut 28 = .ok (.invokestatic 139, 3) := by decide +kernel
theorem dX0_dryOut_31 : decode cX0_dryOut 31 = .ok (.istore_n 3, 1) := by decide +kernel
theorem dX0_dryOut_32 : decode cX0_dryOut 32 = .ok (.aload_n 0, 1) := by decide +kernel
theorem dX0_dryOut_33 : decode cX0_dryOut 33 = .ok (.getfield 9, 3) := by decide +kernel
theorem dX0_dryOut_36 : decode cX0_dryOut 36 = .ok (.iload_n 2, 1) := by decide +kernel
theorem dX0_dryOut_37 : decode cX0_dryOut 37 = .ok (.aload_n 0, 1) := by decide +kernel
theorem dX0_dryOut_38 : decode cX0_dryOut 38 = .ok (.getfield 9, 3) := by decide +kernel
theorem dX0_dryOut_41 : decode cX0_dryOut 41 = .ok (.iload_n 2, 1) := by decide +kernel
theorem dX0_dryOut_42 : decode cX0_dryOut 42 = .ok (.iaload, 1) := by decide +kernel
theorem dX0_dryOut_43 : decode cX0_dryOut 43 = .ok (.aload_n 0, 1) := by decide +kernel
theorem dX0_dryOut_44 : decode cX0_dryOut 44 = .ok (.iconst 1, 1) := by decide +kernel
theorem dX0_dryOut_45 : decode cX0_dryOut 45 = .ok (.aload_n 0, 1) := by decide +kernel
theorem dX0_dryOut_46 : decode cX0_dryOut 46 = .ok (.getfield 9, 3) := by decide +kernel
theorem dX0_dryOut_49 : decode cX0_dryOut 49 = .ok (.iload_n 2, 1) := by decide +kernel
theorem dX0_dryOut_50 : decode cX0_dryOut 50 = .ok (.iaload, 1) := by decide +kernel
theorem dX0_dryOut_51 : decode cX0_dryOut 51 = .ok (.iload_n 3, 1) := by decide +kernel
theorem dX0_dryOut_52 : decode cX0_dryOut 52 = .ok (.aload_n 0, 1) := by decide +kernel
theorem dX0_dryOut_53 : decode cX0_dryOut 53 = .ok (.getfield 66, 3) := by decide +kernel
theorem dX0_dryOut_56 : decode cX0_dryOut 56 = .ok (.bipush 8, 2) := by decide +kernel
theorem dX0_dryOut_58 : decode cX0_dryOut 58 = .ok (.irem, 1) := by decide +kernel
theorem dX0_dryOut_59 : decode cX0_dryOut 59 = .ok (.invokevirtual 110, 3) := by decide +kernel
theorem dX0_dryOut_62 : decode cX0_dryOut 62 = .ok (.isub, 1) := by decide +kernel
theorem dX0_dryOut_63 : decode cX0_dryOut 63 = .ok (.invokestatic 96, 3) := by decide +kernel
theorem dX0_dryOut_66 : decode cX0_dryOut 66 = .ok (.iastore, 1) := by decide +kernel
theorem dX0_dryOut_67 : decode cX0_dryOut 67 = .ok (.iinc 2 1, 3) := by decide +kernel
theorem dX0_dryOut_70 : decode cX0_dryOut 70 = .ok (.goto (-63), 3) := by decide +kernel
theorem dX0_dryOut_73 : decode cX0_dryOut 73 = .ok (.return_, 1) := by decide +kernel
theorem u31_0 {d : Nat} {R : gR} {μ : gM} {l1 l2 l3 : Value} {st : List Value} {x : Nat}  : gc_W (gc_S d) cX0_dryOut 0 2 R 0 [.ref x, l1, l2, l3] st μ ↔ gc_W (gc_S d) cX0_dryOut 0 2 R 1 [.ref x, l1, l2, l3] (.ref x :: st) μ := us_aload_n dX0_dryOut_0 rfl
theorem u31_1 {d : Nat} {R : gR} {μ : gM} {L : List Value} {o : Nat} (hk : gc_kd o = 0) : gc_W (gc_S d) cX0_dryOut 0 2 R 1 L [.ref o] μ ↔ gc_S d 6 [.ref o] μ (fun v μ' => gc_W (gc_S d) cX0_dryOut 0 2 R 4 L (v.toList ++ []) μ') := us_virt dX0_dryOut_1 gn_0_133 gc_0_133_0 hk rfl rfl rfl rfl rfl
theorem u31_4 {d : Nat} {R : gR} {μ : gM} {l0 l1 l2 l3 : Value} {st : List Value} {x : Int32} (hs : gc_sk l1 = true) : gc_W (gc_S d) cX0_dryOut 0 2 R 4 [l0, l1, l2, l3] (.int x :: st) μ ↔ gc_W (gc_S d) cX0_dryOut 0 2 R 5 [l0, .int x, l2, l3] st μ := us_istore_n dX0_dryOut_4 rfl hs
theorem u31_5 {d : Nat} {R : gR} {μ : gM} {L : List Value} {st : List Value}   : gc_W (gc_S d) cX0_dryOut 0 2 R 5 L st μ ↔ gc_W (gc_S d) cX0_dryOut 0 2 R 6 L (.int 0 :: st) μ := us_iconst dX0_dryOut_5 ci_iconst_0
theorem u31_6 {d : Nat} {R : gR} {μ : gM} {l0 l1 l2 l3 : Value} {st : List Value} {x : Int32} (hs : gc_sk l2 = true) : gc_W (gc_S d) cX0_dryOut 0 2 R 6 [l0, l1, l2, l3] (.int x :: st) μ ↔ gc_W (gc_S d) cX0_dryOut 0 2 R 7 [l0, l1, .int x, l3] st μ := us_istore_n dX0_dryOut_6 rfl hs
theorem u31_7 {d : Nat} {R : gR} {μ : gM} {l0 l1 l3 : Value} {st : List Value} {x : Int32}  : gc_W (gc_S d) cX0_dryOut 0 2 R 7 [l0, l1, .int x, l3] st μ ↔ gc_W (gc_S d) cX0_dryOut 0 2 R 8 [l0, l1, .int x, l3] (.int x :: st) μ := us_iload_n dX0_dryOut_7 rfl
theorem u31_8 {d : Nat} {R : gR} {μ : gM} {L : List Value} {st : List Value}   : gc_W (gc_S d) cX0_dryOut 0 2 R 8 L st μ ↔ gc_W (gc_S d) cX0_dryOut 0 2 R 10 L (.int 16 :: st) μ := us_bipush dX0_dryOut_8 ci_bipush_16
theorem u31_10 {d : Nat} {R : gR} {μ : gM} {L : List Value} {st : List Value} {x y : Int32}  : gc_W (gc_S d) cX0_dryOut 0 2 R 10 L (.int y :: .int x :: st) μ ↔ if y ≤ x then gc_W (gc_S d) cX0_dryOut 0 2 R 73 L st μ else gc_W (gc_S d) cX0_dryOut 0 2 R 13 L st μ := us_icge dX0_dryOut_10 rfl
theorem u31_13 {d : Nat} {R : gR} {μ : gM} {l1 l2 l3 : Value} {st : List Value} {x : Nat}  : gc_W (gc_S d) cX0_dryOut 0 2 R 13 [.ref x, l1, l2, l3] st μ ↔ gc_W (gc_S d) cX0_dryOut 0 2 R 14 [.ref x, l1, l2, l3] (.ref x :: st) μ := us_aload_n dX0_dryOut_13 rfl
theorem u31_14 {d : Nat} {R : gR} {μ : gM} {L : List Value} {st : List Value} {o : Nat} (hk : gc_kd o = 0) : gc_W (gc_S d) cX0_dryOut 0 2 R 14 L (.ref o :: st) μ ↔ gc_W (gc_S d) cX0_dryOut 0 2 R 17 L (gc_fv o 2 μ :: st) μ := us_getf dX0_dryOut_14 gf_0_9 hk
theorem u31_17 {d : Nat} {R : gR} {μ : gM} {l0 l1 l3 : Value} {st : List Value} {x : Int32}  : gc_W (gc_S d) cX0_dryOut 0 2 R 17 [l0, l1, .int x, l3] st μ ↔ gc_W (gc_S d) cX0_dryOut 0 2 R 18 [l0, l1, .int x, l3] (.int x :: st) μ := us_iload_n dX0_dryOut_17 rfl
theorem u31_18 {d : Nat} {R : gR} {μ : gM} {L : List Value} {st : List Value} {o : Nat} {i : Int32} (hk : gc_kd o = 20) : gc_W (gc_S d) cX0_dryOut 0 2 R 18 L (.int i :: .ref o :: st) μ ↔ (vp_in i (gc_al o) ∧ gc_W (gc_S d) cX0_dryOut 0 2 R 19 L (.int (μ o i.toNatClampNeg) :: st) μ) := us_iald dX0_dryOut_18 hk
theorem u31_19 {d : Nat} {R : gR} {μ : gM} {L : List Value} {st : List Value} {x : Int32}  : gc_W (gc_S d) cX0_dryOut 0 2 R 19 L (.int x :: st) μ ↔ if x ≤ 0 then gc_W (gc_S d) cX0_dryOut 0 2 R 67 L st μ else gc_W (gc_S d) cX0_dryOut 0 2 R 22 L st μ := us_ifle dX0_dryOut_19 rfl
theorem u31_22 {d : Nat} {R : gR} {μ : gM} {l0 l1 l3 : Value} {st : List Value} {x : Int32}  : gc_W (gc_S d) cX0_dryOut 0 2 R 22 [l0, l1, .int x, l3] st μ ↔ gc_W (gc_S d) cX0_dryOut 0 2 R 23 [l0, l1, .int x, l3] (.int x :: st) μ := us_iload_n dX0_dryOut_22 rfl
theorem u31_23 {d : Nat} {R : gR} {μ : gM} {L : List Value}  {a0 : Int32}  : gc_W (gc_S d) cX0_dryOut 0 2 R 23 L [.int a0] μ ↔ gc_S d 29 [.int a0] μ (fun v μ' => gc_W (gc_S d) cX0_dryOut 0 2 R 26 L (v.toList ++ []) μ') := us_nest dX0_dryOut_23 gs_0_136 (by decide +kernel) rfl rfl rfl rfl
theorem u31_26 {d : Nat} {R : gR} {μ : gM} {l0 l2 l3 : Value} {st : List Value} {x : Int32}  : gc_W (gc_S d) cX0_dryOut 0 2 R 26 [l0, .int x, l2, l3] st μ ↔ gc_W (gc_S d) cX0_dryOut 0 2 R 27 [l0, .int x, l2, l3] (.int x :: st) μ := us_iload_n dX0_dryOut_26 rfl
theorem u31_27 {d : Nat} {R : gR} {μ : gM} {L : List Value} {st : List Value} {x y : Int32}  : gc_W (gc_S d) cX0_dryOut 0 2 R 27 L (.int y :: .int x :: st) μ ↔ gc_W (gc_S d) cX0_dryOut 0 2 R 28 L (.int (x &&& y) :: st) μ := us_iand dX0_dryOut_27
theorem u31_28 {d : Nat} {R : gR} {μ : gM} {L : List Value}  {a0 : Int32}  : gc_W (gc_S d) cX0_dryOut 0 2 R 28 L [.int a0] μ ↔ gc_S d 30 [.int a0] μ (fun v μ' => gc_W (gc_S d) cX0_dryOut 0 2 R 31 L (v.toList ++ []) μ') := us_stat dX0_dryOut_28 gs_0_139 gne_0_139 gn_0_139 gc_0_139_97 rfl rfl rfl rfl
theorem u31_31 {d : Nat} {R : gR} {μ : gM} {l0 l1 l2 l3 : Value} {st : List Value} {x : Int32} (hs : gc_sk l3 = true) : gc_W (gc_S d) cX0_dryOut 0 2 R 31 [l0, l1, l2, l3] (.int x :: st) μ ↔ gc_W (gc_S d) cX0_dryOut 0 2 R 32 [l0, l1, l2, .int x] st μ := us_istore_n dX0_dryOut_31 rfl hs
theorem u31_32 {d : Nat} {R : gR} {μ : gM} {l1 l2 l3 : Value} {st : List Value} {x : Nat}  : gc_W (gc_S d) cX0_dryOut 0 2 R 32 [.ref x, l1, l2, l3] st μ ↔ gc_W (gc_S d) cX0_dryOut 0 2 R 33 [.ref x, l1, l2, l3] (.ref x :: st) μ := us_aload_n dX0_dryOut_32 rfl
theorem u31_33 {d : Nat} {R : gR} {μ : gM} {L : List Value} {st : List Value} {o : Nat} (hk : gc_kd o = 0) : gc_W (gc_S d) cX0_dryOut 0 2 R 33 L (.ref o :: st) μ ↔ gc_W (gc_S d) cX0_dryOut 0 2 R 36 L (gc_fv o 2 μ :: st) μ := us_getf dX0_dryOut_33 gf_0_9 hk
theorem u31_36 {d : Nat} {R : gR} {μ : gM} {l0 l1 l3 : Value} {st : List Value} {x : Int32}  : gc_W (gc_S d) cX0_dryOut 0 2 R 36 [l0, l1, .int x, l3] st μ ↔ gc_W (gc_S d) cX0_dryOut 0 2 R 37 [l0, l1, .int x, l3] (.int x :: st) μ := us_iload_n dX0_dryOut_36 rfl
theorem u31_37 {d : Nat} {R : gR} {μ : gM} {l1 l2 l3 : Value} {st : List Value} {x : Nat}  : gc_W (gc_S d) cX0_dryOut 0 2 R 37 [.ref x, l1, l2, l3] st μ ↔ gc_W (gc_S d) cX0_dryOut 0 2 R 38 [.ref x, l1, l2, l3] (.ref x :: st) μ := us_aload_n dX0_dryOut_37 rfl
theorem u31_38 {d : Nat} {R : gR} {μ : gM} {L : List Value} {st : List Value} {o : Nat} (hk : gc_kd o = 0) : gc_W (gc_S d) cX0_dryOut 0 2 R 38 L (.ref o :: st) μ ↔ gc_W (gc_S d) cX0_dryOut 0 2 R 41 L (gc_fv o 2 μ :: st) μ := us_getf dX0_dryOut_38 gf_0_9 hk
theorem u31_41 {d : Nat} {R : gR} {μ : gM} {l0 l1 l3 : Value} {st : List Value} {x : Int32}  : gc_W (gc_S d) cX0_dryOut 0 2 R 41 [l0, l1, .int x, l3] st μ ↔ gc_W (gc_S d) cX0_dryOut 0 2 R 42 [l0, l1, .int x, l3] (.int x :: st) μ := us_iload_n dX0_dryOut_41 rfl
theorem u31_42 {d : Nat} {R : gR} {μ : gM} {L : List Value} {st : List Value} {o : Nat} {i : Int32} (hk : gc_kd o = 20) : gc_W (gc_S d) cX0_dryOut 0 2 R 42 L (.int i :: .ref o :: st) μ ↔ (vp_in i (gc_al o) ∧ gc_W (gc_S d) cX0_dryOut 0 2 R 43 L (.int (μ o i.toNatClampNeg) :: st) μ) := us_iald dX0_dryOut_42 hk
theorem u31_43 {d : Nat} {R : gR} {μ : gM} {l1 l2 l3 : Value} {st : List Value} {x : Nat}  : gc_W (gc_S d) cX0_dryOut 0 2 R 43 [.ref x, l1, l2, l3] st μ ↔ gc_W (gc_S d) cX0_dryOut 0 2 R 44 [.ref x, l1, l2, l3] (.ref x :: st) μ := us_aload_n dX0_dryOut_43 rfl
theorem u31_44 {d : Nat} {R : gR} {μ : gM} {L : List Value} {st : List Value}   : gc_W (gc_S d) cX0_dryOut 0 2 R 44 L st μ ↔ gc_W (gc_S d) cX0_dryOut 0 2 R 45 L (.int 1 :: st) μ := us_iconst dX0_dryOut_44 ci_iconst_1
theorem u31_45 {d : Nat} {R : gR} {μ : gM} {l1 l2 l3 : Value} {st : List Value} {x : Nat}  : gc_W (gc_S d) cX0_dryOut 0 2 R 45 [.ref x, l1, l2, l3] st μ ↔ gc_W (gc_S d) cX0_dryOut 0 2 R 46 [.ref x, l1, l2, l3] (.ref x :: st) μ := us_aload_n dX0_dryOut_45 rfl
theorem u31_46 {d : Nat} {R : gR} {μ : gM} {L : List Value} {st : List Value} {o : Nat} (hk : gc_kd o = 0) : gc_W (gc_S d) cX0_dryOut 0 2 R 46 L (.ref o :: st) μ ↔ gc_W (gc_S d) cX0_dryOut 0 2 R 49 L (gc_fv o 2 μ :: st) μ := us_getf dX0_dryOut_46 gf_0_9 hk
theorem u31_49 {d : Nat} {R : gR} {μ : gM} {l0 l1 l3 : Value} {st : List Value} {x : Int32}  : gc_W (gc_S d) cX0_dryOut 0 2 R 49 [l0, l1, .int x, l3] st μ ↔ gc_W (gc_S d) cX0_dryOut 0 2 R 50 [l0, l1, .int x, l3] (.int x :: st) μ := us_iload_n dX0_dryOut_49 rfl
theorem u31_50 {d : Nat} {R : gR} {μ : gM} {L : List Value} {st : List Value} {o : Nat} {i : Int32} (hk : gc_kd o = 20) : gc_W (gc_S d) cX0_dryOut 0 2 R 50 L (.int i :: .ref o :: st) μ ↔ (vp_in i (gc_al o) ∧ gc_W (gc_S d) cX0_dryOut 0 2 R 51 L (.int (μ o i.toNatClampNeg) :: st) μ) := us_iald dX0_dryOut_50 hk
theorem u31_51 {d : Nat} {R : gR} {μ : gM} {l0 l1 l2 : Value} {st : List Value} {x : Int32}  : gc_W (gc_S d) cX0_dryOut 0 2 R 51 [l0, l1, l2, .int x] st μ ↔ gc_W (gc_S d) cX0_dryOut 0 2 R 52 [l0, l1, l2, .int x] (.int x :: st) μ := us_iload_n dX0_dryOut_51 rfl
theorem u31_52 {d : Nat} {R : gR} {μ : gM} {l1 l2 l3 : Value} {st : List Value} {x : Nat}  : gc_W (gc_S d) cX0_dryOut 0 2 R 52 [.ref x, l1, l2, l3] st μ ↔ gc_W (gc_S d) cX0_dryOut 0 2 R 53 [.ref x, l1, l2, l3] (.ref x :: st) μ := us_aload_n dX0_dryOut_52 rfl
theorem u31_53 {d : Nat} {R : gR} {μ : gM} {L : List Value} {st : List Value} {o : Nat} (hk : gc_kd o = 0) : gc_W (gc_S d) cX0_dryOut 0 2 R 53 L (.ref o :: st) μ ↔ gc_W (gc_S d) cX0_dryOut 0 2 R 56 L (gc_fv o 12 μ :: st) μ := us_getf dX0_dryOut_53 gf_0_66 hk
theorem u31_56 {d : Nat} {R : gR} {μ : gM} {L : List Value} {st : List Value}   : gc_W (gc_S d) cX0_dryOut 0 2 R 56 L st μ ↔ gc_W (gc_S d) cX0_dryOut 0 2 R 58 L (.int 8 :: st) μ := us_bipush dX0_dryOut_56 ci_bipush_8
theorem u31_58 {d : Nat} {R : gR} {μ : gM} {L : List Value} {st : List Value} {x y : Int32}  : gc_W (gc_S d) cX0_dryOut 0 2 R 58 L (.int y :: .int x :: st) μ ↔ (¬ y = 0 ∧ gc_W (gc_S d) cX0_dryOut 0 2 R 59 L (.int (x - x / y * y) :: st) μ) := us_irem dX0_dryOut_58
theorem u31_59 {d : Nat} {R : gR} {μ : gM} {L : List Value} {o : Nat} {a0 a1 a2 a3 : Int32} {s0 s1 s2 : Value} (hk : gc_kd o = 0) : gc_W (gc_S d) cX0_dryOut 0 2 R 59 L [.int a3, .int a2, .int a1, .int a0, .ref o, s0, s1, s2] μ ↔ gc_S d 13 [.ref o, .int a0, .int a1, .int a2, .int a3] μ (fun v μ' => gc_W (gc_S d) cX0_dryOut 0 2 R 62 L (v.toList ++ [s0, s1, s2]) μ') := us_virt dX0_dryOut_59 gn_0_110 gc_0_110_0 hk rfl rfl rfl rfl rfl
theorem u31_62 {d : Nat} {R : gR} {μ : gM} {L : List Value} {st : List Value} {x y : Int32}  : gc_W (gc_S d) cX0_dryOut 0 2 R 62 L (.int y :: .int x :: st) μ ↔ gc_W (gc_S d) cX0_dryOut 0 2 R 63 L (.int (x - y) :: st) μ := us_isub dX0_dryOut_62
theorem u31_63 {d : Nat} {R : gR} {μ : gM} {L : List Value}  {a0 : Int32} {s0 s1 : Value}  : gc_W (gc_S d) cX0_dryOut 0 2 R 63 L [.int a0, s0, s1] μ ↔ gc_S d 12 [.int a0] μ (fun v μ' => gc_W (gc_S d) cX0_dryOut 0 2 R 66 L (v.toList ++ [s0, s1]) μ') := us_nest dX0_dryOut_63 gs_0_96 (by decide +kernel) rfl rfl rfl rfl
theorem u31_66 {d : Nat} {R : gR} {μ : gM} {L : List Value} {st : List Value} {o : Nat} {i x : Int32} (hk : gc_kd o = 20) : gc_W (gc_S d) cX0_dryOut 0 2 R 66 L (.int x :: .int i :: .ref o :: st) μ ↔ (vp_in i (gc_al o) ∧ gc_W (gc_S d) cX0_dryOut 0 2 R 67 L st (gc_up μ o i.toNatClampNeg x)) := us_iast dX0_dryOut_66 hk
theorem u31_67 {d : Nat} {R : gR} {μ : gM} {l0 l1 l3 : Value} {st : List Value} {x : Int32}  : gc_W (gc_S d) cX0_dryOut 0 2 R 67 [l0, l1, .int x, l3] st μ ↔ gc_W (gc_S d) cX0_dryOut 0 2 R 70 [l0, l1, .int (x + 1), l3] st μ := us_iinc dX0_dryOut_67 rfl ci_iinc_1
theorem u31_70 {d : Nat} {R : gR} {μ : gM} {L : List Value} {st : List Value}  : gc_W (gc_S d) cX0_dryOut 0 2 R 70 L st μ ↔ gc_W (gc_S d) cX0_dryOut 0 2 R 7 L st μ := us_goto dX0_dryOut_70 rfl
theorem u31_73 {d : Nat} {R : gR} {μ : gM} {L : List Value}   : gc_W (gc_S d) cX0_dryOut 0 2 R 73 L [] μ ↔ R none μ := us_vret dX0_dryOut_73 rfl
theorem s31 {d : Nat} {R : gR} {μ : gM} {o : Nat} : gc_S (d + 1) 31 [.ref o] μ R ↔ gc_W (gc_S d) cX0_dryOut 0 2 R 0 [.ref o, .retAddr 0, .retAddr 0, .retAddr 0] [] μ := us_call (gm_31) rfl rfl
theorem dX0_grieve_0 : decode cX0_grieve 0 = .ok (.iconst 0, 1) := by decide +kernel
theorem dX0_grieve_1 : decode cX0_grieve 1 = .ok (.istore_n 1, 1) := by decide +kernel
theorem dX0_grieve_2 : decode cX0_grieve 2 = .ok (.iload_n 1, 1) := by decide +kernel
theorem dX0_grieve_3 : decode cX0_grieve 3 = .ok (.aload_n 0, 1) := by decide +kernel
theorem dX0_grieve_4 : decode cX0_grieve 4 = .ok (.getfield 69, 3) := by decide +kernel
theorem dX0_grieve_7 : decode cX0_grieve 7 = .ok (.if_icmp .ge 43, 3) := by decide +kernel
theorem dX0_grieve_10 : decode cX0_grieve 10 = .ok (.aload_n 0, 1) := by decide +kernel
theorem dX0_grieve_11 : decode cX0_grieve 11 = .ok (.getfield 27, 3) := by decide +kernel
theorem dX0_grieve_14 : decode cX0_grieve 14 = .ok (.iload_n 1, 1) := by decide +kernel
theorem dX0_grieve_15 : decode cX0_grieve 15 = .ok (.aload_n 0, 1) := by decide +kernel
theorem dX0_grieve_16 : decode cX0_grieve 16 = .ok (.getfield 27, 3) := by decide +kernel
theorem dX0_grieve_19 : decode cX0_grieve 19 = .ok (.iload_n 1, 1) := by decide +kernel
theorem dX0_grieve_20 : decode cX0_grieve 20 = .ok (.iaload, 1) := by decide +kernel
theorem dX0_grieve_21 : decode cX0_grieve 21 = .ok (.aload_n 0, 1) := by decide +kernel
theorem dX0_grieve_22 : decode cX0_grieve 22 = .ok (.iload_n 1, 1) := by decide +kernel
theorem dX0_grieve_23 : decode cX0_grieve 23 = .ok (.invokevirtual 100, 3) := by decide +kernel
theorem dX0_grieve_26 : decode cX0_grieve 26 = .ok (.aload_n 0, 1) := by decide +kernel
theorem dX0_grieve_27 : decode cX0_grieve 27 = .ok (.getfield 24, 3) := by decide +kernel
theorem dX0_grieve_30 : decode cX0_grieve 30 = .ok (.iload_n 1, 1) := by decide +kernel
theorem dX0_grieve_31 : decode cX0_grieve 31 = .ok (.iaload, 1) := by decide +kernel
theorem dX0_grieve_32 : decode cX0_grieve 32 = .ok (.aload_n 0, 1) := by decide +kernel
theorem dX0_grieve_33 : decode cX0_grieve 33 = .ok (.getfield 66, 3) := by decide +kernel
theorem dX0_grieve_36 : decode cX0_grieve 36 = .ok (.invokevirtual 144, 3) := by decide +kernel
theorem dX0_grieve_39 : decode cX0_grieve 39 = .ok (.iadd, 1) := by decide +kernel
theorem dX0_grieve_40 : decode cX0_grieve 40 = .ok (.invokestatic 96, 3) := by decide +kernel
theorem dX0_grieve_43 : decode cX0_grieve 43 = .ok (.iastore, 1) := by decide +kernel
theorem dX0_grieve_44 : decode cX0_grieve 44 = .ok (.iinc 1 1, 3) := by decide +kernel
theorem dX0_grieve_47 : decode cX0_grieve 47 = .ok (.goto (-45), 3) := by decide +kernel
theorem dX0_grieve_50 : decode cX0_grieve 50 = .ok (.return_, 1) := by decide +kernel
theorem u37_0 {d : Nat} {R : gR} {μ : gM} {L : List Value} {st : List Value}   : gc_W (gc_S d) cX0_grieve 0 2 R 0 L st μ ↔ gc_W (gc_S d) cX0_grieve 0 2 R 1 L (.int 0 :: st) μ := us_iconst dX0_grieve_0 ci_iconst_0
theorem u37_1 {d : Nat} {R : gR} {μ : gM} {l0 l1 : Value} {st : List Value} {x : Int32} (hs : gc_sk l1 = true) : gc_W (gc_S d) cX0_grieve 0 2 R 1 [l0, l1] (.int x :: st) μ ↔ gc_W (gc_S d) cX0_grieve 0 2 R 2 [l0, .int x] st μ := us_istore_n dX0_grieve_1 rfl hs
theorem u37_2 {d : Nat} {R : gR} {μ : gM} {l0 : Value} {st : List Value} {x : Int32}  : gc_W (gc_S d) cX0_grieve 0 2 R 2 [l0, .int x] st μ ↔ gc_W (gc_S d) cX0_grieve 0 2 R 3 [l0, .int x] (.int x :: st) μ := us_iload_n dX0_grieve_2 rfl
theorem u37_3 {d : Nat} {R : gR} {μ : gM} {l1 : Value} {st : List Value} {x : Nat}  : gc_W (gc_S d) cX0_grieve 0 2 R 3 [.ref x, l1] st μ ↔ gc_W (gc_S d) cX0_grieve 0 2 R 4 [.ref x, l1] (.ref x :: st) μ := us_aload_n dX0_grieve_3 rfl
theorem u37_4 {d : Nat} {R : gR} {μ : gM} {L : List Value} {st : List Value} {o : Nat} (hk : gc_kd o = 0) : gc_W (gc_S d) cX0_grieve 0 2 R 4 L (.ref o :: st) μ ↔ gc_W (gc_S d) cX0_grieve 0 2 R 7 L (gc_fv o 13 μ :: st) μ := us_getf dX0_grieve_4 gf_0_69 hk
theorem u37_7 {d : Nat} {R : gR} {μ : gM} {L : List Value} {st : List Value} {x y : Int32}  : gc_W (gc_S d) cX0_grieve 0 2 R 7 L (.int y :: .int x :: st) μ ↔ if y ≤ x then gc_W (gc_S d) cX0_grieve 0 2 R 50 L st μ else gc_W (gc_S d) cX0_grieve 0 2 R 10 L st μ := us_icge dX0_grieve_7 rfl
theorem u37_10 {d : Nat} {R : gR} {μ : gM} {l1 : Value} {st : List Value} {x : Nat}  : gc_W (gc_S d) cX0_grieve 0 2 R 10 [.ref x, l1] st μ ↔ gc_W (gc_S d) cX0_grieve 0 2 R 11 [.ref x, l1] (.ref x :: st) μ := us_aload_n dX0_grieve_10 rfl
theorem u37_11 {d : Nat} {R : gR} {μ : gM} {L : List Value} {st : List Value} {o : Nat} (hk : gc_kd o = 0) : gc_W (gc_S d) cX0_grieve 0 2 R 11 L (.ref o :: st) μ ↔ gc_W (gc_S d) cX0_grieve 0 2 R 14 L (gc_fv o 7 μ :: st) μ := us_getf dX0_grieve_11 gf_0_27 hk
theorem u37_14 {d : Nat} {R : gR} {μ : gM} {l0 : Value} {st : List Value} {x : Int32}  : gc_W (gc_S d) cX0_grieve 0 2 R 14 [l0, .int x] st μ ↔ gc_W (gc_S d) cX0_grieve 0 2 R 15 [l0, .int x] (.int x :: st) μ := us_iload_n dX0_grieve_14 rfl
theorem u37_15 {d : Nat} {R : gR} {μ : gM} {l1 : Value} {st : List Value} {x : Nat}  : gc_W (gc_S d) cX0_grieve 0 2 R 15 [.ref x, l1] st μ ↔ gc_W (gc_S d) cX0_grieve 0 2 R 16 [.ref x, l1] (.ref x :: st) μ := us_aload_n dX0_grieve_15 rfl
theorem u37_16 {d : Nat} {R : gR} {μ : gM} {L : List Value} {st : List Value} {o : Nat} (hk : gc_kd o = 0) : gc_W (gc_S d) cX0_grieve 0 2 R 16 L (.ref o :: st) μ ↔ gc_W (gc_S d) cX0_grieve 0 2 R 19 L (gc_fv o 7 μ :: st) μ := us_getf dX0_grieve_16 gf_0_27 hk
theorem u37_19 {d : Nat} {R : gR} {μ : gM} {l0 : Value} {st : List Value} {x : Int32}  : gc_W (gc_S d) cX0_grieve 0 2 R 19 [l0, .int x] st μ ↔ gc_W (gc_S d) cX0_grieve 0 2 R 20 [l0, .int x] (.int x :: st) μ := us_iload_n dX0_grieve_19 rfl
theorem u37_20 {d : Nat} {R : gR} {μ : gM} {L : List Value} {st : List Value} {o : Nat} {i : Int32} (hk : gc_kd o = 20) : gc_W (gc_S d) cX0_grieve 0 2 R 20 L (.int i :: .ref o :: st) μ ↔ (vp_in i (gc_al o) ∧ gc_W (gc_S d) cX0_grieve 0 2 R 21 L (.int (μ o i.toNatClampNeg) :: st) μ) := us_iald dX0_grieve_20 hk
theorem u37_21 {d : Nat} {R : gR} {μ : gM} {l1 : Value} {st : List Value} {x : Nat}  : gc_W (gc_S d) cX0_grieve 0 2 R 21 [.ref x, l1] st μ ↔ gc_W (gc_S d) cX0_grieve 0 2 R 22 [.ref x, l1] (.ref x :: st) μ := us_aload_n dX0_grieve_21 rfl
theorem u37_22 {d : Nat} {R : gR} {μ : gM} {l0 : Value} {st : List Value} {x : Int32}  : gc_W (gc_S d) cX0_grieve 0 2 R 22 [l0, .int x] st μ ↔ gc_W (gc_S d) cX0_grieve 0 2 R 23 [l0, .int x] (.int x :: st) μ := us_iload_n dX0_grieve_22 rfl
theorem u37_23 {d : Nat} {R : gR} {μ : gM} {L : List Value} {o : Nat} {a0 : Int32} {s0 s1 s2 : Value} (hk : gc_kd o = 0) : gc_W (gc_S d) cX0_grieve 0 2 R 23 L [.int a0, .ref o, s0, s1, s2] μ ↔ gc_S d 3 [.ref o, .int a0] μ (fun v μ' => gc_W (gc_S d) cX0_grieve 0 2 R 26 L (v.toList ++ [s0, s1, s2]) μ') := us_virt dX0_grieve_23 gn_0_100 gc_0_100_0 hk rfl rfl rfl rfl rfl
theorem u37_26 {d : Nat} {R : gR} {μ : gM} {l1 : Value} {st : List Value} {x : Nat}  : gc_W (gc_S d) cX0_grieve 0 2 R 26 [.ref x, l1] st μ ↔ gc_W (gc_S d) cX0_grieve 0 2 R 27 [.ref x, l1] (.ref x :: st) μ := us_aload_n dX0_grieve_26 rfl
theorem u37_27 {d : Nat} {R : gR} {μ : gM} {L : List Value} {st : List Value} {o : Nat} (hk : gc_kd o = 0) : gc_W (gc_S d) cX0_grieve 0 2 R 27 L (.ref o :: st) μ ↔ gc_W (gc_S d) cX0_grieve 0 2 R 30 L (gc_fv o 6 μ :: st) μ := us_getf dX0_grieve_27 gf_0_24 hk
theorem u37_30 {d : Nat} {R : gR} {μ : gM} {l0 : Value} {st : List Value} {x : Int32}  : gc_W (gc_S d) cX0_grieve 0 2 R 30 [l0, .int x] st μ ↔ gc_W (gc_S d) cX0_grieve 0 2 R 31 [l0, .int x] (.int x :: st) μ := us_iload_n dX0_grieve_30 rfl
theorem u37_31 {d : Nat} {R : gR} {μ : gM} {L : List Value} {st : List Value} {o : Nat} {i : Int32} (hk : gc_kd o = 20) : gc_W (gc_S d) cX0_grieve 0 2 R 31 L (.int i :: .ref o :: st) μ ↔ (vp_in i (gc_al o) ∧ gc_W (gc_S d) cX0_grieve 0 2 R 32 L (.int (μ o i.toNatClampNeg) :: st) μ) := us_iald dX0_grieve_31 hk
theorem u37_32 {d : Nat} {R : gR} {μ : gM} {l1 : Value} {st : List Value} {x : Nat}  : gc_W (gc_S d) cX0_grieve 0 2 R 32 [.ref x, l1] st μ ↔ gc_W (gc_S d) cX0_grieve 0 2 R 33 [.ref x, l1] (.ref x :: st) μ := us_aload_n dX0_grieve_32 rfl
theorem u37_33 {d : Nat} {R : gR} {μ : gM} {L : List Value} {st : List Value} {o : Nat} (hk : gc_kd o = 0) : gc_W (gc_S d) cX0_grieve 0 2 R 33 L (.ref o :: st) μ ↔ gc_W (gc_S d) cX0_grieve 0 2 R 36 L (gc_fv o 12 μ :: st) μ := us_getf dX0_grieve_33 gf_0_66 hk
theorem u37_36_1 {d : Nat} {R : gR} {μ : gM} {L : List Value} {o : Nat} {a0 a1 : Int32} {s0 s1 s2 : Value} (hk : gc_kd o = 1) : gc_W (gc_S d) cX0_grieve 0 2 R 36 L [.int a1, .int a0, .ref o, s0, s1, s2] μ ↔ gc_S d 32 [.ref o, .int a0, .int a1] μ (fun v μ' => gc_W (gc_S d) cX0_grieve 0 2 R 39 L (v.toList ++ [s0, s1, s2]) μ') := us_virt dX0_grieve_36 gn_0_144 gc_0_144_1 hk rfl rfl rfl rfl rfl
theorem u37_36_3 {d : Nat} {R : gR} {μ : gM} {L : List Value} {o : Nat} {a0 a1 : Int32} {s0 s1 s2 : Value} (hk : gc_kd o = 3) : gc_W (gc_S d) cX0_grieve 0 2 R 36 L [.int a1, .int a0, .ref o, s0, s1, s2] μ ↔ gc_S d 32 [.ref o, .int a0, .int a1] μ (fun v μ' => gc_W (gc_S d) cX0_grieve 0 2 R 39 L (v.toList ++ [s0, s1, s2]) μ') := us_virt dX0_grieve_36 gn_0_144 gc_0_144_3 hk rfl rfl rfl rfl rfl
theorem u37_36_4 {d : Nat} {R : gR} {μ : gM} {L : List Value} {o : Nat} {a0 a1 : Int32} {s0 s1 s2 : Value} (hk : gc_kd o = 4) : gc_W (gc_S d) cX0_grieve 0 2 R 36 L [.int a1, .int a0, .ref o, s0, s1, s2] μ ↔ gc_S d 34 [.ref o, .int a0, .int a1] μ (fun v μ' => gc_W (gc_S d) cX0_grieve 0 2 R 39 L (v.toList ++ [s0, s1, s2]) μ') := us_virt dX0_grieve_36 gn_0_144 gc_0_144_4 hk rfl rfl rfl rfl rfl
theorem u37_36_5 {d : Nat} {R : gR} {μ : gM} {L : List Value} {o : Nat} {a0 a1 : Int32} {s0 s1 s2 : Value} (hk : gc_kd o = 5) : gc_W (gc_S d) cX0_grieve 0 2 R 36 L [.int a1, .int a0, .ref o, s0, s1, s2] μ ↔ gc_S d 33 [.ref o, .int a0, .int a1] μ (fun v μ' => gc_W (gc_S d) cX0_grieve 0 2 R 39 L (v.toList ++ [s0, s1, s2]) μ') := us_virt dX0_grieve_36 gn_0_144 gc_0_144_5 hk rfl rfl rfl rfl rfl
theorem u37_36_6 {d : Nat} {R : gR} {μ : gM} {L : List Value} {o : Nat} {a0 a1 : Int32} {s0 s1 s2 : Value} (hk : gc_kd o = 6) : gc_W (gc_S d) cX0_grieve 0 2 R 36 L [.int a1, .int a0, .ref o, s0, s1, s2] μ ↔ gc_S d 36 [.ref o, .int a0, .int a1] μ (fun v μ' => gc_W (gc_S d) cX0_grieve 0 2 R 39 L (v.toList ++ [s0, s1, s2]) μ') := us_virt dX0_grieve_36 gn_0_144 gc_0_144_6 hk rfl rfl rfl rfl rfl
theorem u37_36_8 {d : Nat} {R : gR} {μ : gM} {L : List Value} {o : Nat} {a0 a1 : Int32} {s0 s1 s2 : Value} (hk : gc_kd o = 8) : gc_W (gc_S d) cX0_grieve 0 2 R 36 L [.int a1, .int a0, .ref o, s0, s1, s2] μ ↔ gc_S d 33 [.ref o, .int a0, .int a1] μ (fun v μ' => gc_W (gc_S d) cX0_grieve 0 2 R 39 L (v.toList ++ [s0, s1, s2]) μ') := us_virt dX0_grieve_36 gn_0_144 gc_0_144_8 hk rfl rfl rfl rfl rfl
theorem u37_36_10 {d : Nat} {R : gR} {μ : gM} {L : List Value} {o : Nat} {a0 a1 : Int32} {s0 s1 s2 : Value} (hk : gc_kd o = 10) : gc_W (gc_S d) cX0_grieve 0 2 R 36 L [.int a1, .int a0, .ref o, s0, s1, s2] μ ↔ gc_S d 35 [.ref o, .int a0, .int a1] μ (fun v μ' => gc_W (gc_S d) cX0_grieve 0 2 R 39 L (v.toList ++ [s0, s1, s2]) μ') := us_virt dX0_grieve_36 gn_0_144 gc_0_144_10 hk rfl rfl rfl rfl rfl
theorem u37_39 {d : Nat} {R : gR} {μ : gM} {L : List Value} {st : List Value} {x y : Int32}  : gc_W (gc_S d) cX0_grieve 0 2 R 39 L (.int y :: .int x :: st) μ ↔ gc_W (gc_S d) cX0_grieve 0 2 R 40 L (.int (x + y) :: st) μ := us_iadd dX0_grieve_39
theorem u37_40 {d : Nat} {R : gR} {μ : gM} {L : List Value}  {a0 : Int32} {s0 s1 : Value}  : gc_W (gc_S d) cX0_grieve 0 2 R 40 L [.int a0, s0, s1] μ ↔ gc_S d 12 [.int a0] μ (fun v μ' => gc_W (gc_S d) cX0_grieve 0 2 R 43 L (v.toList ++ [s0, s1]) μ') := us_nest dX0_grieve_40 gs_0_96 (by decide +kernel) rfl rfl rfl rfl
theorem u37_43 {d : Nat} {R : gR} {μ : gM} {L : List Value} {st : List Value} {o : Nat} {i x : Int32} (hk : gc_kd o = 20) : gc_W (gc_S d) cX0_grieve 0 2 R 43 L (.int x :: .int i :: .ref o :: st) μ ↔ (vp_in i (gc_al o) ∧ gc_W (gc_S d) cX0_grieve 0 2 R 44 L st (gc_up μ o i.toNatClampNeg x)) := us_iast dX0_grieve_43 hk
theorem u37_44 {d : Nat} {R : gR} {μ : gM} {l0 : Value} {st : List Value} {x : Int32}  : gc_W (gc_S d) cX0_grieve 0 2 R 44 [l0, .int x] st μ ↔ gc_W (gc_S d) cX0_grieve 0 2 R 47 [l0, .int (x + 1)] st μ := us_iinc dX0_grieve_44 rfl ci_iinc_1
theorem u37_47 {d : Nat} {R : gR} {μ : gM} {L : List Value} {st : List Value}  : gc_W (gc_S d) cX0_grieve 0 2 R 47 L st μ ↔ gc_W (gc_S d) cX0_grieve 0 2 R 2 L st μ := us_goto dX0_grieve_47 rfl
theorem u37_50 {d : Nat} {R : gR} {μ : gM} {L : List Value}   : gc_W (gc_S d) cX0_grieve 0 2 R 50 L [] μ ↔ R none μ := us_vret dX0_grieve_50 rfl
theorem s37 {d : Nat} {R : gR} {μ : gM} {o : Nat} : gc_S (d + 1) 37 [.ref o] μ R ↔ gc_W (gc_S d) cX0_grieve 0 2 R 0 [.ref o, .retAddr 0] [] μ := us_call (gm_37) rfl rfl
theorem dX0_passYear_0 : decode cX0_passYear 0 = .ok (.aload_n 0, 1) := by decide +kernel
theorem dX0_passYear_1 : decode cX0_passYear 1 = .ok (.getfield 18, 3) := by decide +kernel
theorem dX0_passYear_4 : decode cX0_passYear 4 = .ok (.aload_n 0, 1) := by decide +kernel
theorem dX0_passYear_5 : decode cX0_passYear 5 = .ok (.getfield 66, 3) := by decide +kernel
theorem dX0_passYear_8 : decode cX0_passYear 8 = .ok (.bipush 6, 2) := by decide +kernel
theorem dX0_passYear_10 : decode cX0_passYear 10 = .ok (.irem, 1) := by decide +kernel
theorem dX0_passYear_11 : decode cX0_passYear 11 = .ok (.iaload, 1) := by decide +kernel
theorem dX0_passYear_12 : decode cX0_passYear 12 = .ok (.istore_n 1, 1) := by decide +kernel
theorem dX0_passYear_13 : decode cX0_passYear 13 = .ok (.iload_n 1, 1) := by decide +kernel
theorem dX0_passYear_14 : decode cX0_passYear 14 = .ok (.aload_n 0, 1) := by decide +kernel
theorem dX0_passYear_15 : decode cX0_passYear 15 = .ok (.getfield 69, 3) := by decide +kernel
theorem dX0_passYear_18 : decode cX0_passYear 18 = .ok (.if_icmp .ge 75, 3) := by decide +kernel
theorem dX0_passYear_21 : decode cX0_passYear 21 = .ok (.aload_n 0, 1) := by decide +kernel
theorem dX0_passYear_22 : decode cX0_passYear 22 = .ok (.iload_n 1, 1) := by decide +kernel
theorem dX0_passYear_23 : decode cX0_passYear 23 = .ok (.invokevirtual 114, 3) := by decide +kernel
theorem dX0_passYear_26 : decode cX0_passYear 26 = .ok (.istore_n 2, 1) := by decide +kernel
theorem dX0_passYear_27 : decode cX0_passYear 27 = .ok (.aload_n 0, 1) := by decide +kernel
theorem dX0_passYear_28 : decode cX0_passYear 28 = .ok (.getfield 30, 3) := by decide +kernel
theorem dX0_passYear_31 : decode cX0_passYear 31 = .ok (.iload_n 1, 1) := by decide +kernel
theorem dX0_passYear_32 : decode cX0_passYear 32 = .ok (.iaload, 1) := by decide +kernel
theorem dX0_passYear_33 : decode cX0_passYear 33 = .ok (.istore_n 3, 1) := by decide +kernel
theorem dX0_passYear_34 : decode cX0_passYear 34 = .ok (.aload_n 0, 1) := by decide +kernel
theorem dX0_passYear_35 : decode cX0_passYear 35 = .ok (.getfield 63, 3) := by decide +kernel
theorem dX0_passYear_38 : decode cX0_passYear 38 = .ok (.iload_n 3, 1) := by decide +kernel
theorem dX0_passYear_39 : decode cX0_passYear 39 = .ok (.ishr, 1) := by decide +kernel
theorem dX0_passYear_40 : decode cX0_passYear 40 = .ok (.iconst 1, 1) := by decide +kernel
theorem dX0_passYear_41 : decode cX0_passYear 41 = .ok (.iand, 1) := by decide +kernel
theorem dX0_passYear_42 : decode cX0_passYear 42 = .ok (.ifCond .ne 20, 3) := by decide +kernel
theorem dX0_passYear_45 : decode cX0_passYear 45 = .ok (.aload_n 0, 1) := by decide +kernel
theorem dX0_passYear_46 : decode cX0_passYear 46 = .ok (.getfield 9, 3) := by decide +kernel
theorem dX0_passYear_49 : decode cX0_passYear 49 = .ok (.iload_n 3, 1) := by decide +kernel
theorem dX0_passYear_50 : decode cX0_passYear 50 = .ok (.aload_n 0, 1) := by decide +kernel
theorem dX0_passYear_51 : decode cX0_passYear 51 = .ok (.getfield 9, 3) := by decide +kernel
theorem dX0_passYear_54 : decode cX0_passYear 54 = .ok (.iload_n 3, 1) := by decide +kernel
theorem dX0_passYear_55 : decode cX0_passYear 55 = .ok (.iaload, 1) := by decide +kernel
theorem dX0_passYear_56 : decode cX0_passYear 56 = .ok (.iload_n 2, 1) := by decide +kernel
theorem dX0_passYear_57 : decode cX0_passYear 57 = .ok (.iadd, 1) := by decide +kernel
theorem dX0_passYear_58 : decode cX0_passYear 58 = .ok (.invokestatic 96, 3) := by decide +kernel
theorem dX0_passYear_61 : decode cX0_passYear 61 = .ok (.iastore, 1) := by decide +kernel
theorem dX0_passYear_62 : decode cX0_passYear 62 = .ok (.aload_n 0, 1) := by decide +kernel
theorem dX0_passYear_63 : decode cX0_passYear 63 = .ok (.getfield 27, 3) := by decide +kernel
theorem dX0_passYear_66 : decode cX0_passYear 66 = .ok (.iload_n 1, 1) := by decide +kernel
theorem dX0_passYear_67 : decode cX0_passYear 67 = .ok (.aload_n 0, 1) := by decide +kernel
theorem dX0_passYear_68 : decode cX0_passYear 68 = .ok (.getfield 27, 3) := by decide +kernel
theorem dX0_passYear_71 : decode cX0_passYear 71 = .ok (.iload_n 1, 1) := by decide +kernel
theorem dX0_passYear_72 : decode cX0_passYear 72 = .ok (.iaload, 1) := by decide +kernel
theorem dX0_passYear_73 : decode cX0_passYear 73 = .ok (.aload_n 0, 1) := by decide +kernel
theorem dX0_passYear_74 : decode cX0_passYear 74 = .ok (.iload_n 1, 1) := by decide +kernel
theorem dX0_passYear_75 : decode cX0_passYear 75 = .ok (.invokevirtual 100, 3) := by decide +kernel
theorem dX0_passYear_78 : decode cX0_passYear 78 = .ok (.aload_n 0, 1) := by decide +kernel
theorem dX0_passYear_79 : decode cX0_passYear 79 = .ok (.getfield 24, 3) := by decide +kernel
theorem dX0_passYear_82 : decode cX0_passYear 82 = .ok (.iload_n 1, 1) := by decide +kernel
theorem dX0_passYear_83 : decode cX0_passYear 83 = .ok (.iaload, 1) := by decide +kernel
theorem dX0_passYear_84 : decode cX0_passYear 84 = .ok (.iload_n 2, 1) := by decide +kernel
theorem dX0_passYear_85 : decode cX0_passYear 85 = .ok (.invokevirtual 117, 3) := by decide +kernel
theorem dX0_passYear_88 : decode cX0_passYear 88 = .ok (.isub, 1) := by decide +kernel
theorem dX0_passYear_89 : decode cX0_passYear 89 = .ok (.invokestatic 96, 3) := by decide +kernel
theorem dX0_passYear_92 : decode cX0_passYear 92 = .ok (.iastore, 1) := by decide +kernel
theorem dX0_passYear_93 : decode cX0_passYear 93 = .ok (.aload_n 0, 1) := by decide +kernel
theorem dX0_passYear_94 : decode cX0_passYear 94 = .ok (.invokevirtual 120, 3) := by decide +kernel
theorem dX0_passYear_97 : decode cX0_passYear 97 = .ok (.aload_n 0, 1) := by decide +kernel
theorem dX0_passYear_98 : decode cX0_passYear 98 = .ok (.invokevirtual 123, 3) := by decide +kernel
theorem dX0_passYear_101 : decode cX0_passYear 101 = .ok (.aload_n 0, 1) := by decide +kernel
theorem dX0_passYear_102 : decode cX0_passYear 102 = .ok (.invokevirtual 126, 3) := by decide +kernel
theorem dX0_passYear_105 : decode cX0_passYear 105 = .ok (.aload_n 0, 1) := by decide +kernel
theorem dX0_passYear_106 : decode cX0_passYear 106 = .ok (.dup, 1) := by decide +kernel
theorem dX0_passYear_107 : decode cX0_passYear 107 = .ok (.getfield 66, 3) := by decide +kernel
theorem dX0_passYear_110 : decode cX0_passYear 110 = .ok (.iconst 1, 1) := by decide +kernel
theorem dX0_passYear_111 : decode cX0_passYear 111 = .ok (.iadd, 1) := by decide +kernel
theorem dX0_passYear_112 : decode cX0_passYear 112 = .ok (.putfield 66, 3) := by decide +kernel
theorem dX0_passYear_115 : decode cX0_passYear 115 = .ok (.return_, 1) := by decide +kernel
theorem u38_0 {d : Nat} {R : gR} {μ : gM} {l1 l2 l3 : Value} {st : List Value} {x : Nat}  : gc_W (gc_S d) cX0_passYear 0 2 R 0 [.ref x, l1, l2, l3] st μ ↔ gc_W (gc_S d) cX0_passYear 0 2 R 1 [.ref x, l1, l2, l3] (.ref x :: st) μ := us_aload_n dX0_passYear_0 rfl
theorem u38_1 {d : Nat} {R : gR} {μ : gM} {L : List Value} {st : List Value} {o : Nat} (hk : gc_kd o = 0) : gc_W (gc_S d) cX0_passYear 0 2 R 1 L (.ref o :: st) μ ↔ gc_W (gc_S d) cX0_passYear 0 2 R 4 L (gc_fv o 4 μ :: st) μ := us_getf dX0_passYear_1 gf_0_18 hk
theorem u38_4 {d : Nat} {R : gR} {μ : gM} {l1 l2 l3 : Value} {st : List Value} {x : Nat}  : gc_W (gc_S d) cX0_passYear 0 2 R 4 [.ref x, l1, l2, l3] st μ ↔ gc_W (gc_S d) cX0_passYear 0 2 R 5 [.ref x, l1, l2, l3] (.ref x :: st) μ := us_aload_n dX0_passYear_4 rfl
theorem u38_5 {d : Nat} {R : gR} {μ : gM} {L : List Value} {st : List Value} {o : Nat} (hk : gc_kd o = 0) : gc_W (gc_S d) cX0_passYear 0 2 R 5 L (.ref o :: st) μ ↔ gc_W (gc_S d) cX0_passYear 0 2 R 8 L (gc_fv o 12 μ :: st) μ := us_getf dX0_passYear_5 gf_0_66 hk
theorem u38_8 {d : Nat} {R : gR} {μ : gM} {L : List Value} {st : List Value}   : gc_W (gc_S d) cX0_passYear 0 2 R 8 L st μ ↔ gc_W (gc_S d) cX0_passYear 0 2 R 10 L (.int 6 :: st) μ := us_bipush dX0_passYear_8 ci_bipush_6
theorem u38_10 {d : Nat} {R : gR} {μ : gM} {L : List Value} {st : List Value} {x y : Int32}  : gc_W (gc_S d) cX0_passYear 0 2 R 10 L (.int y :: .int x :: st) μ ↔ (¬ y = 0 ∧ gc_W (gc_S d) cX0_passYear 0 2 R 11 L (.int (x - x / y * y) :: st) μ) := us_irem dX0_passYear_10
theorem u38_11 {d : Nat} {R : gR} {μ : gM} {L : List Value} {st : List Value} {o : Nat} {i : Int32} (hk : gc_kd o = 20) : gc_W (gc_S d) cX0_passYear 0 2 R 11 L (.int i :: .ref o :: st) μ ↔ (vp_in i (gc_al o) ∧ gc_W (gc_S d) cX0_passYear 0 2 R 12 L (.int (μ o i.toNatClampNeg) :: st) μ) := us_iald dX0_passYear_11 hk
theorem u38_12 {d : Nat} {R : gR} {μ : gM} {l0 l1 l2 l3 : Value} {st : List Value} {x : Int32} (hs : gc_sk l1 = true) : gc_W (gc_S d) cX0_passYear 0 2 R 12 [l0, l1, l2, l3] (.int x :: st) μ ↔ gc_W (gc_S d) cX0_passYear 0 2 R 13 [l0, .int x, l2, l3] st μ := us_istore_n dX0_passYear_12 rfl hs
theorem u38_13 {d : Nat} {R : gR} {μ : gM} {l0 l2 l3 : Value} {st : List Value} {x : Int32}  : gc_W (gc_S d) cX0_passYear 0 2 R 13 [l0, .int x, l2, l3] st μ ↔ gc_W (gc_S d) cX0_passYear 0 2 R 14 [l0, .int x, l2, l3] (.int x :: st) μ := us_iload_n dX0_passYear_13 rfl
theorem u38_14 {d : Nat} {R : gR} {μ : gM} {l1 l2 l3 : Value} {st : List Value} {x : Nat}  : gc_W (gc_S d) cX0_passYear 0 2 R 14 [.ref x, l1, l2, l3] st μ ↔ gc_W (gc_S d) cX0_passYear 0 2 R 15 [.ref x, l1, l2, l3] (.ref x :: st) μ := us_aload_n dX0_passYear_14 rfl
theorem u38_15 {d : Nat} {R : gR} {μ : gM} {L : List Value} {st : List Value} {o : Nat} (hk : gc_kd o = 0) : gc_W (gc_S d) cX0_passYear 0 2 R 15 L (.ref o :: st) μ ↔ gc_W (gc_S d) cX0_passYear 0 2 R 18 L (gc_fv o 13 μ :: st) μ := us_getf dX0_passYear_15 gf_0_69 hk
theorem u38_18 {d : Nat} {R : gR} {μ : gM} {L : List Value} {st : List Value} {x y : Int32}  : gc_W (gc_S d) cX0_passYear 0 2 R 18 L (.int y :: .int x :: st) μ ↔ if y ≤ x then gc_W (gc_S d) cX0_passYear 0 2 R 93 L st μ else gc_W (gc_S d) cX0_passYear 0 2 R 21 L st μ := us_icge dX0_passYear_18 rfl
theorem u38_21 {d : Nat} {R : gR} {μ : gM} {l1 l2 l3 : Value} {st : List Value} {x : Nat}  : gc_W (gc_S d) cX0_passYear 0 2 R 21 [.ref x, l1, l2, l3] st μ ↔ gc_W (gc_S d) cX0_passYear 0 2 R 22 [.ref x, l1, l2, l3] (.ref x :: st) μ := us_aload_n dX0_passYear_21 rfl
theorem u38_22 {d : Nat} {R : gR} {μ : gM} {l0 l2 l3 : Value} {st : List Value} {x : Int32}  : gc_W (gc_S d) cX0_passYear 0 2 R 22 [l0, .int x, l2, l3] st μ ↔ gc_W (gc_S d) cX0_passYear 0 2 R 23 [l0, .int x, l2, l3] (.int x :: st) μ := us_iload_n dX0_passYear_22 rfl
theorem u38_23 {d : Nat} {R : gR} {μ : gM} {L : List Value} {o : Nat} {a0 : Int32} (hk : gc_kd o = 0) : gc_W (gc_S d) cX0_passYear 0 2 R 23 L [.int a0, .ref o] μ ↔ gc_S d 21 [.ref o, .int a0] μ (fun v μ' => gc_W (gc_S d) cX0_passYear 0 2 R 26 L (v.toList ++ []) μ') := us_virt dX0_passYear_23 gn_0_114 gc_0_114_0 hk rfl rfl rfl rfl rfl
theorem u38_26 {d : Nat} {R : gR} {μ : gM} {l0 l1 l2 l3 : Value} {st : List Value} {x : Int32} (hs : gc_sk l2 = true) : gc_W (gc_S d) cX0_passYear 0 2 R 26 [l0, l1, l2, l3] (.int x :: st) μ ↔ gc_W (gc_S d) cX0_passYear 0 2 R 27 [l0, l1, .int x, l3] st μ := us_istore_n dX0_passYear_26 rfl hs
theorem u38_27 {d : Nat} {R : gR} {μ : gM} {l1 l2 l3 : Value} {st : List Value} {x : Nat}  : gc_W (gc_S d) cX0_passYear 0 2 R 27 [.ref x, l1, l2, l3] st μ ↔ gc_W (gc_S d) cX0_passYear 0 2 R 28 [.ref x, l1, l2, l3] (.ref x :: st) μ := us_aload_n dX0_passYear_27 rfl
theorem u38_28 {d : Nat} {R : gR} {μ : gM} {L : List Value} {st : List Value} {o : Nat} (hk : gc_kd o = 0) : gc_W (gc_S d) cX0_passYear 0 2 R 28 L (.ref o :: st) μ ↔ gc_W (gc_S d) cX0_passYear 0 2 R 31 L (gc_fv o 8 μ :: st) μ := us_getf dX0_passYear_28 gf_0_30 hk
theorem u38_31 {d : Nat} {R : gR} {μ : gM} {l0 l2 l3 : Value} {st : List Value} {x : Int32}  : gc_W (gc_S d) cX0_passYear 0 2 R 31 [l0, .int x, l2, l3] st μ ↔ gc_W (gc_S d) cX0_passYear 0 2 R 32 [l0, .int x, l2, l3] (.int x :: st) μ := us_iload_n dX0_passYear_31 rfl
theorem u38_32 {d : Nat} {R : gR} {μ : gM} {L : List Value} {st : List Value} {o : Nat} {i : Int32} (hk : gc_kd o = 20) : gc_W (gc_S d) cX0_passYear 0 2 R 32 L (.int i :: .ref o :: st) μ ↔ (vp_in i (gc_al o) ∧ gc_W (gc_S d) cX0_passYear 0 2 R 33 L (.int (μ o i.toNatClampNeg) :: st) μ) := us_iald dX0_passYear_32 hk
theorem u38_33 {d : Nat} {R : gR} {μ : gM} {l0 l1 l2 l3 : Value} {st : List Value} {x : Int32} (hs : gc_sk l3 = true) : gc_W (gc_S d) cX0_passYear 0 2 R 33 [l0, l1, l2, l3] (.int x :: st) μ ↔ gc_W (gc_S d) cX0_passYear 0 2 R 34 [l0, l1, l2, .int x] st μ := us_istore_n dX0_passYear_33 rfl hs
theorem u38_34 {d : Nat} {R : gR} {μ : gM} {l1 l2 l3 : Value} {st : List Value} {x : Nat}  : gc_W (gc_S d) cX0_passYear 0 2 R 34 [.ref x, l1, l2, l3] st μ ↔ gc_W (gc_S d) cX0_passYear 0 2 R 35 [.ref x, l1, l2, l3] (.ref x :: st) μ := us_aload_n dX0_passYear_34 rfl
theorem u38_35 {d : Nat} {R : gR} {μ : gM} {L : List Value} {st : List Value} {o : Nat} (hk : gc_kd o = 0) : gc_W (gc_S d) cX0_passYear 0 2 R 35 L (.ref o :: st) μ ↔ gc_W (gc_S d) cX0_passYear 0 2 R 38 L (gc_fv o 11 μ :: st) μ := us_getf dX0_passYear_35 gf_0_63 hk
theorem u38_38 {d : Nat} {R : gR} {μ : gM} {l0 l1 l2 : Value} {st : List Value} {x : Int32}  : gc_W (gc_S d) cX0_passYear 0 2 R 38 [l0, l1, l2, .int x] st μ ↔ gc_W (gc_S d) cX0_passYear 0 2 R 39 [l0, l1, l2, .int x] (.int x :: st) μ := us_iload_n dX0_passYear_38 rfl
theorem u38_39 {d : Nat} {R : gR} {μ : gM} {L : List Value} {st : List Value} {x y : Int32}  : gc_W (gc_S d) cX0_passYear 0 2 R 39 L (.int y :: .int x :: st) μ ↔ gc_W (gc_S d) cX0_passYear 0 2 R 40 L (.int (x >>> (y &&& 31)) :: st) μ := us_ishr dX0_passYear_39
theorem u38_40 {d : Nat} {R : gR} {μ : gM} {L : List Value} {st : List Value}   : gc_W (gc_S d) cX0_passYear 0 2 R 40 L st μ ↔ gc_W (gc_S d) cX0_passYear 0 2 R 41 L (.int 1 :: st) μ := us_iconst dX0_passYear_40 ci_iconst_1
theorem u38_41 {d : Nat} {R : gR} {μ : gM} {L : List Value} {st : List Value} {x y : Int32}  : gc_W (gc_S d) cX0_passYear 0 2 R 41 L (.int y :: .int x :: st) μ ↔ gc_W (gc_S d) cX0_passYear 0 2 R 42 L (.int (x &&& y) :: st) μ := us_iand dX0_passYear_41
theorem u38_42 {d : Nat} {R : gR} {μ : gM} {L : List Value} {st : List Value} {x : Int32}  : gc_W (gc_S d) cX0_passYear 0 2 R 42 L (.int x :: st) μ ↔ if x = 0 then gc_W (gc_S d) cX0_passYear 0 2 R 45 L st μ else gc_W (gc_S d) cX0_passYear 0 2 R 62 L st μ := us_ifne dX0_passYear_42 rfl
theorem u38_45 {d : Nat} {R : gR} {μ : gM} {l1 l2 l3 : Value} {st : List Value} {x : Nat}  : gc_W (gc_S d) cX0_passYear 0 2 R 45 [.ref x, l1, l2, l3] st μ ↔ gc_W (gc_S d) cX0_passYear 0 2 R 46 [.ref x, l1, l2, l3] (.ref x :: st) μ := us_aload_n dX0_passYear_45 rfl
theorem u38_46 {d : Nat} {R : gR} {μ : gM} {L : List Value} {st : List Value} {o : Nat} (hk : gc_kd o = 0) : gc_W (gc_S d) cX0_passYear 0 2 R 46 L (.ref o :: st) μ ↔ gc_W (gc_S d) cX0_passYear 0 2 R 49 L (gc_fv o 2 μ :: st) μ := us_getf dX0_passYear_46 gf_0_9 hk
theorem u38_49 {d : Nat} {R : gR} {μ : gM} {l0 l1 l2 : Value} {st : List Value} {x : Int32}  : gc_W (gc_S d) cX0_passYear 0 2 R 49 [l0, l1, l2, .int x] st μ ↔ gc_W (gc_S d) cX0_passYear 0 2 R 50 [l0, l1, l2, .int x] (.int x :: st) μ := us_iload_n dX0_passYear_49 rfl
theorem u38_50 {d : Nat} {R : gR} {μ : gM} {l1 l2 l3 : Value} {st : List Value} {x : Nat}  : gc_W (gc_S d) cX0_passYear 0 2 R 50 [.ref x, l1, l2, l3] st μ ↔ gc_W (gc_S d) cX0_passYear 0 2 R 51 [.ref x, l1, l2, l3] (.ref x :: st) μ := us_aload_n dX0_passYear_50 rfl
theorem u38_51 {d : Nat} {R : gR} {μ : gM} {L : List Value} {st : List Value} {o : Nat} (hk : gc_kd o = 0) : gc_W (gc_S d) cX0_passYear 0 2 R 51 L (.ref o :: st) μ ↔ gc_W (gc_S d) cX0_passYear 0 2 R 54 L (gc_fv o 2 μ :: st) μ := us_getf dX0_passYear_51 gf_0_9 hk
theorem u38_54 {d : Nat} {R : gR} {μ : gM} {l0 l1 l2 : Value} {st : List Value} {x : Int32}  : gc_W (gc_S d) cX0_passYear 0 2 R 54 [l0, l1, l2, .int x] st μ ↔ gc_W (gc_S d) cX0_passYear 0 2 R 55 [l0, l1, l2, .int x] (.int x :: st) μ := us_iload_n dX0_passYear_54 rfl
theorem u38_55 {d : Nat} {R : gR} {μ : gM} {L : List Value} {st : List Value} {o : Nat} {i : Int32} (hk : gc_kd o = 20) : gc_W (gc_S d) cX0_passYear 0 2 R 55 L (.int i :: .ref o :: st) μ ↔ (vp_in i (gc_al o) ∧ gc_W (gc_S d) cX0_passYear 0 2 R 56 L (.int (μ o i.toNatClampNeg) :: st) μ) := us_iald dX0_passYear_55 hk
theorem u38_56 {d : Nat} {R : gR} {μ : gM} {l0 l1 l3 : Value} {st : List Value} {x : Int32}  : gc_W (gc_S d) cX0_passYear 0 2 R 56 [l0, l1, .int x, l3] st μ ↔ gc_W (gc_S d) cX0_passYear 0 2 R 57 [l0, l1, .int x, l3] (.int x :: st) μ := us_iload_n dX0_passYear_56 rfl
theorem u38_57 {d : Nat} {R : gR} {μ : gM} {L : List Value} {st : List Value} {x y : Int32}  : gc_W (gc_S d) cX0_passYear 0 2 R 57 L (.int y :: .int x :: st) μ ↔ gc_W (gc_S d) cX0_passYear 0 2 R 58 L (.int (x + y) :: st) μ := us_iadd dX0_passYear_57
theorem u38_58 {d : Nat} {R : gR} {μ : gM} {L : List Value}  {a0 : Int32} {s0 s1 : Value}  : gc_W (gc_S d) cX0_passYear 0 2 R 58 L [.int a0, s0, s1] μ ↔ gc_S d 12 [.int a0] μ (fun v μ' => gc_W (gc_S d) cX0_passYear 0 2 R 61 L (v.toList ++ [s0, s1]) μ') := us_nest dX0_passYear_58 gs_0_96 (by decide +kernel) rfl rfl rfl rfl
theorem u38_61 {d : Nat} {R : gR} {μ : gM} {L : List Value} {st : List Value} {o : Nat} {i x : Int32} (hk : gc_kd o = 20) : gc_W (gc_S d) cX0_passYear 0 2 R 61 L (.int x :: .int i :: .ref o :: st) μ ↔ (vp_in i (gc_al o) ∧ gc_W (gc_S d) cX0_passYear 0 2 R 62 L st (gc_up μ o i.toNatClampNeg x)) := us_iast dX0_passYear_61 hk
theorem u38_62 {d : Nat} {R : gR} {μ : gM} {l1 l2 l3 : Value} {st : List Value} {x : Nat}  : gc_W (gc_S d) cX0_passYear 0 2 R 62 [.ref x, l1, l2, l3] st μ ↔ gc_W (gc_S d) cX0_passYear 0 2 R 63 [.ref x, l1, l2, l3] (.ref x :: st) μ := us_aload_n dX0_passYear_62 rfl
theorem u38_63 {d : Nat} {R : gR} {μ : gM} {L : List Value} {st : List Value} {o : Nat} (hk : gc_kd o = 0) : gc_W (gc_S d) cX0_passYear 0 2 R 63 L (.ref o :: st) μ ↔ gc_W (gc_S d) cX0_passYear 0 2 R 66 L (gc_fv o 7 μ :: st) μ := us_getf dX0_passYear_63 gf_0_27 hk
theorem u38_66 {d : Nat} {R : gR} {μ : gM} {l0 l2 l3 : Value} {st : List Value} {x : Int32}  : gc_W (gc_S d) cX0_passYear 0 2 R 66 [l0, .int x, l2, l3] st μ ↔ gc_W (gc_S d) cX0_passYear 0 2 R 67 [l0, .int x, l2, l3] (.int x :: st) μ := us_iload_n dX0_passYear_66 rfl
theorem u38_67 {d : Nat} {R : gR} {μ : gM} {l1 l2 l3 : Value} {st : List Value} {x : Nat}  : gc_W (gc_S d) cX0_passYear 0 2 R 67 [.ref x, l1, l2, l3] st μ ↔ gc_W (gc_S d) cX0_passYear 0 2 R 68 [.ref x, l1, l2, l3] (.ref x :: st) μ := us_aload_n dX0_passYear_67 rfl
theorem u38_68 {d : Nat} {R : gR} {μ : gM} {L : List Value} {st : List Value} {o : Nat} (hk : gc_kd o = 0) : gc_W (gc_S d) cX0_passYear 0 2 R 68 L (.ref o :: st) μ ↔ gc_W (gc_S d) cX0_passYear 0 2 R 71 L (gc_fv o 7 μ :: st) μ := us_getf dX0_passYear_68 gf_0_27 hk
theorem u38_71 {d : Nat} {R : gR} {μ : gM} {l0 l2 l3 : Value} {st : List Value} {x : Int32}  : gc_W (gc_S d) cX0_passYear 0 2 R 71 [l0, .int x, l2, l3] st μ ↔ gc_W (gc_S d) cX0_passYear 0 2 R 72 [l0, .int x, l2, l3] (.int x :: st) μ := us_iload_n dX0_passYear_71 rfl
theorem u38_72 {d : Nat} {R : gR} {μ : gM} {L : List Value} {st : List Value} {o : Nat} {i : Int32} (hk : gc_kd o = 20) : gc_W (gc_S d) cX0_passYear 0 2 R 72 L (.int i :: .ref o :: st) μ ↔ (vp_in i (gc_al o) ∧ gc_W (gc_S d) cX0_passYear 0 2 R 73 L (.int (μ o i.toNatClampNeg) :: st) μ) := us_iald dX0_passYear_72 hk
theorem u38_73 {d : Nat} {R : gR} {μ : gM} {l1 l2 l3 : Value} {st : List Value} {x : Nat}  : gc_W (gc_S d) cX0_passYear 0 2 R 73 [.ref x, l1, l2, l3] st μ ↔ gc_W (gc_S d) cX0_passYear 0 2 R 74 [.ref x, l1, l2, l3] (.ref x :: st) μ := us_aload_n dX0_passYear_73 rfl
theorem u38_74 {d : Nat} {R : gR} {μ : gM} {l0 l2 l3 : Value} {st : List Value} {x : Int32}  : gc_W (gc_S d) cX0_passYear 0 2 R 74 [l0, .int x, l2, l3] st μ ↔ gc_W (gc_S d) cX0_passYear 0 2 R 75 [l0, .int x, l2, l3] (.int x :: st) μ := us_iload_n dX0_passYear_74 rfl
theorem u38_75 {d : Nat} {R : gR} {μ : gM} {L : List Value} {o : Nat} {a0 : Int32} {s0 s1 s2 : Value} (hk : gc_kd o = 0) : gc_W (gc_S d) cX0_passYear 0 2 R 75 L [.int a0, .ref o, s0, s1, s2] μ ↔ gc_S d 3 [.ref o, .int a0] μ (fun v μ' => gc_W (gc_S d) cX0_passYear 0 2 R 78 L (v.toList ++ [s0, s1, s2]) μ') := us_virt dX0_passYear_75 gn_0_100 gc_0_100_0 hk rfl rfl rfl rfl rfl
theorem u38_78 {d : Nat} {R : gR} {μ : gM} {l1 l2 l3 : Value} {st : List Value} {x : Nat}  : gc_W (gc_S d) cX0_passYear 0 2 R 78 [.ref x, l1, l2, l3] st μ ↔ gc_W (gc_S d) cX0_passYear 0 2 R 79 [.ref x, l1, l2, l3] (.ref x :: st) μ := us_aload_n dX0_passYear_78 rfl
theorem u38_79 {d : Nat} {R : gR} {μ : gM} {L : List Value} {st : List Value} {o : Nat} (hk : gc_kd o = 0) : gc_W (gc_S d) cX0_passYear 0 2 R 79 L (.ref o :: st) μ ↔ gc_W (gc_S d) cX0_passYear 0 2 R 82 L (gc_fv o 6 μ :: st) μ := us_getf dX0_passYear_79 gf_0_24 hk
theorem u38_82 {d : Nat} {R : gR} {μ : gM} {l0 l2 l3 : Value} {st : List Value} {x : Int32}  : gc_W (gc_S d) cX0_passYear 0 2 R 82 [l0, .int x, l2, l3] st μ ↔ gc_W (gc_S d) cX0_passYear 0 2 R 83 [l0, .int x, l2, l3] (.int x :: st) μ := us_iload_n dX0_passYear_82 rfl
theorem u38_83 {d : Nat} {R : gR} {μ : gM} {L : List Value} {st : List Value} {o : Nat} {i : Int32} (hk : gc_kd o = 20) : gc_W (gc_S d) cX0_passYear 0 2 R 83 L (.int i :: .ref o :: st) μ ↔ (vp_in i (gc_al o) ∧ gc_W (gc_S d) cX0_passYear 0 2 R 84 L (.int (μ o i.toNatClampNeg) :: st) μ) := us_iald dX0_passYear_83 hk
theorem u38_84 {d : Nat} {R : gR} {μ : gM} {l0 l1 l3 : Value} {st : List Value} {x : Int32}  : gc_W (gc_S d) cX0_passYear 0 2 R 84 [l0, l1, .int x, l3] st μ ↔ gc_W (gc_S d) cX0_passYear 0 2 R 85 [l0, l1, .int x, l3] (.int x :: st) μ := us_iload_n dX0_passYear_84 rfl
theorem u38_85_1 {d : Nat} {R : gR} {μ : gM} {L : List Value} {o : Nat} {a0 a1 : Int32} {s0 s1 s2 : Value} (hk : gc_kd o = 1) : gc_W (gc_S d) cX0_passYear 0 2 R 85 L [.int a1, .int a0, .ref o, s0, s1, s2] μ ↔ gc_S d 22 [.ref o, .int a0, .int a1] μ (fun v μ' => gc_W (gc_S d) cX0_passYear 0 2 R 88 L (v.toList ++ [s0, s1, s2]) μ') := us_virt dX0_passYear_85 gn_0_117 gc_0_117_1 hk rfl rfl rfl rfl rfl
theorem u38_85_3 {d : Nat} {R : gR} {μ : gM} {L : List Value} {o : Nat} {a0 a1 : Int32} {s0 s1 s2 : Value} (hk : gc_kd o = 3) : gc_W (gc_S d) cX0_passYear 0 2 R 85 L [.int a1, .int a0, .ref o, s0, s1, s2] μ ↔ gc_S d 23 [.ref o, .int a0, .int a1] μ (fun v μ' => gc_W (gc_S d) cX0_passYear 0 2 R 88 L (v.toList ++ [s0, s1, s2]) μ') := us_virt dX0_passYear_85 gn_0_117 gc_0_117_3 hk rfl rfl rfl rfl rfl
theorem u38_85_4 {d : Nat} {R : gR} {μ : gM} {L : List Value} {o : Nat} {a0 a1 : Int32} {s0 s1 s2 : Value} (hk : gc_kd o = 4) : gc_W (gc_S d) cX0_passYear 0 2 R 85 L [.int a1, .int a0, .ref o, s0, s1, s2] μ ↔ gc_S d 24 [.ref o, .int a0, .int a1] μ (fun v μ' => gc_W (gc_S d) cX0_passYear 0 2 R 88 L (v.toList ++ [s0, s1, s2]) μ') := us_virt dX0_passYear_85 gn_0_117 gc_0_117_4 hk rfl rfl rfl rfl rfl
theorem u38_85_5 {d : Nat} {R : gR} {μ : gM} {L : List Value} {o : Nat} {a0 a1 : Int32} {s0 s1 s2 : Value} (hk : gc_kd o = 5) : gc_W (gc_S d) cX0_passYear 0 2 R 85 L [.int a1, .int a0, .ref o, s0, s1, s2] μ ↔ gc_S d 23 [.ref o, .int a0, .int a1] μ (fun v μ' => gc_W (gc_S d) cX0_passYear 0 2 R 88 L (v.toList ++ [s0, s1, s2]) μ') := us_virt dX0_passYear_85 gn_0_117 gc_0_117_5 hk rfl rfl rfl rfl rfl
theorem u38_85_6 {d : Nat} {R : gR} {μ : gM} {L : List Value} {o : Nat} {a0 a1 : Int32} {s0 s1 s2 : Value} (hk : gc_kd o = 6) : gc_W (gc_S d) cX0_passYear 0 2 R 85 L [.int a1, .int a0, .ref o, s0, s1, s2] μ ↔ gc_S d 25 [.ref o, .int a0, .int a1] μ (fun v μ' => gc_W (gc_S d) cX0_passYear 0 2 R 88 L (v.toList ++ [s0, s1, s2]) μ') := us_virt dX0_passYear_85 gn_0_117 gc_0_117_6 hk rfl rfl rfl rfl rfl
theorem u38_85_8 {d : Nat} {R : gR} {μ : gM} {L : List Value} {o : Nat} {a0 a1 : Int32} {s0 s1 s2 : Value} (hk : gc_kd o = 8) : gc_W (gc_S d) cX0_passYear 0 2 R 85 L [.int a1, .int a0, .ref o, s0, s1, s2] μ ↔ gc_S d 24 [.ref o, .int a0, .int a1] μ (fun v μ' => gc_W (gc_S d) cX0_passYear 0 2 R 88 L (v.toList ++ [s0, s1, s2]) μ') := us_virt dX0_passYear_85 gn_0_117 gc_0_117_8 hk rfl rfl rfl rfl rfl
theorem u38_85_10 {d : Nat} {R : gR} {μ : gM} {L : List Value} {o : Nat} {a0 a1 : Int32} {s0 s1 s2 : Value} (hk : gc_kd o = 10) : gc_W (gc_S d) cX0_passYear 0 2 R 85 L [.int a1, .int a0, .ref o, s0, s1, s2] μ ↔ gc_S d 23 [.ref o, .int a0, .int a1] μ (fun v μ' => gc_W (gc_S d) cX0_passYear 0 2 R 88 L (v.toList ++ [s0, s1, s2]) μ') := us_virt dX0_passYear_85 gn_0_117 gc_0_117_10 hk rfl rfl rfl rfl rfl
theorem u38_88 {d : Nat} {R : gR} {μ : gM} {L : List Value} {st : List Value} {x y : Int32}  : gc_W (gc_S d) cX0_passYear 0 2 R 88 L (.int y :: .int x :: st) μ ↔ gc_W (gc_S d) cX0_passYear 0 2 R 89 L (.int (x - y) :: st) μ := us_isub dX0_passYear_88
theorem u38_89 {d : Nat} {R : gR} {μ : gM} {L : List Value}  {a0 : Int32} {s0 s1 : Value}  : gc_W (gc_S d) cX0_passYear 0 2 R 89 L [.int a0, s0, s1] μ ↔ gc_S d 12 [.int a0] μ (fun v μ' => gc_W (gc_S d) cX0_passYear 0 2 R 92 L (v.toList ++ [s0, s1]) μ') := us_nest dX0_passYear_89 gs_0_96 (by decide +kernel) rfl rfl rfl rfl
theorem u38_92 {d : Nat} {R : gR} {μ : gM} {L : List Value} {st : List Value} {o : Nat} {i x : Int32} (hk : gc_kd o = 20) : gc_W (gc_S d) cX0_passYear 0 2 R 92 L (.int x :: .int i :: .ref o :: st) μ ↔ (vp_in i (gc_al o) ∧ gc_W (gc_S d) cX0_passYear 0 2 R 93 L st (gc_up μ o i.toNatClampNeg x)) := us_iast dX0_passYear_92 hk
theorem u38_93 {d : Nat} {R : gR} {μ : gM} {l1 l2 l3 : Value} {st : List Value} {x : Nat}  : gc_W (gc_S d) cX0_passYear 0 2 R 93 [.ref x, l1, l2, l3] st μ ↔ gc_W (gc_S d) cX0_passYear 0 2 R 94 [.ref x, l1, l2, l3] (.ref x :: st) μ := us_aload_n dX0_passYear_93 rfl
theorem u38_94 {d : Nat} {R : gR} {μ : gM} {L : List Value} {o : Nat} (hk : gc_kd o = 0) : gc_W (gc_S d) cX0_passYear 0 2 R 94 L [.ref o] μ ↔ gc_S d 27 [.ref o] μ (fun v μ' => gc_W (gc_S d) cX0_passYear 0 2 R 97 L (v.toList ++ []) μ') := us_virt dX0_passYear_94 gn_0_120 gc_0_120_0 hk rfl rfl rfl rfl rfl
theorem u38_97 {d : Nat} {R : gR} {μ : gM} {l1 l2 l3 : Value} {st : List Value} {x : Nat}  : gc_W (gc_S d) cX0_passYear 0 2 R 97 [.ref x, l1, l2, l3] st μ ↔ gc_W (gc_S d) cX0_passYear 0 2 R 98 [.ref x, l1, l2, l3] (.ref x :: st) μ := us_aload_n dX0_passYear_97 rfl
theorem u38_98 {d : Nat} {R : gR} {μ : gM} {L : List Value} {o : Nat} (hk : gc_kd o = 0) : gc_W (gc_S d) cX0_passYear 0 2 R 98 L [.ref o] μ ↔ gc_S d 31 [.ref o] μ (fun v μ' => gc_W (gc_S d) cX0_passYear 0 2 R 101 L (v.toList ++ []) μ') := us_virt dX0_passYear_98 gn_0_123 gc_0_123_0 hk rfl rfl rfl rfl rfl
theorem u38_101 {d : Nat} {R : gR} {μ : gM} {l1 l2 l3 : Value} {st : List Value} {x : Nat}  : gc_W (gc_S d) cX0_passYear 0 2 R 101 [.ref x, l1, l2, l3] st μ ↔ gc_W (gc_S d) cX0_passYear 0 2 R 102 [.ref x, l1, l2, l3] (.ref x :: st) μ := us_aload_n dX0_passYear_101 rfl
theorem u38_102 {d : Nat} {R : gR} {μ : gM} {L : List Value} {o : Nat} (hk : gc_kd o = 0) : gc_W (gc_S d) cX0_passYear 0 2 R 102 L [.ref o] μ ↔ gc_S d 37 [.ref o] μ (fun v μ' => gc_W (gc_S d) cX0_passYear 0 2 R 105 L (v.toList ++ []) μ') := us_virt dX0_passYear_102 gn_0_126 gc_0_126_0 hk rfl rfl rfl rfl rfl
theorem u38_105 {d : Nat} {R : gR} {μ : gM} {l1 l2 l3 : Value} {st : List Value} {x : Nat}  : gc_W (gc_S d) cX0_passYear 0 2 R 105 [.ref x, l1, l2, l3] st μ ↔ gc_W (gc_S d) cX0_passYear 0 2 R 106 [.ref x, l1, l2, l3] (.ref x :: st) μ := us_aload_n dX0_passYear_105 rfl
theorem u38_106 {d : Nat} {R : gR} {μ : gM} {L : List Value} {st : List Value} {x : Nat}  : gc_W (gc_S d) cX0_passYear 0 2 R 106 L (.ref x :: st) μ ↔ gc_W (gc_S d) cX0_passYear 0 2 R 107 L (.ref x :: .ref x :: st) μ := us_dup_r dX0_passYear_106
theorem u38_107 {d : Nat} {R : gR} {μ : gM} {L : List Value} {st : List Value} {o : Nat} (hk : gc_kd o = 0) : gc_W (gc_S d) cX0_passYear 0 2 R 107 L (.ref o :: st) μ ↔ gc_W (gc_S d) cX0_passYear 0 2 R 110 L (gc_fv o 12 μ :: st) μ := us_getf dX0_passYear_107 gf_0_66 hk
theorem u38_110 {d : Nat} {R : gR} {μ : gM} {L : List Value} {st : List Value}   : gc_W (gc_S d) cX0_passYear 0 2 R 110 L st μ ↔ gc_W (gc_S d) cX0_passYear 0 2 R 111 L (.int 1 :: st) μ := us_iconst dX0_passYear_110 ci_iconst_1
theorem u38_111 {d : Nat} {R : gR} {μ : gM} {L : List Value} {st : List Value} {x y : Int32}  : gc_W (gc_S d) cX0_passYear 0 2 R 111 L (.int y :: .int x :: st) μ ↔ gc_W (gc_S d) cX0_passYear 0 2 R 112 L (.int (x + y) :: st) μ := us_iadd dX0_passYear_111
theorem u38_112 {d : Nat} {R : gR} {μ : gM} {L : List Value} {st : List Value} {o : Nat} {x : Int32} (hk : gc_kd o = 0) (hj : gc_fk o 12 = 0) : gc_W (gc_S d) cX0_passYear 0 2 R 112 L (.int x :: .ref o :: st) μ ↔ gc_W (gc_S d) cX0_passYear 0 2 R 115 L st (gc_up μ o 12 x) := us_putf dX0_passYear_112 gf_0_66 hk hj rfl
theorem u38_115 {d : Nat} {R : gR} {μ : gM} {L : List Value}   : gc_W (gc_S d) cX0_passYear 0 2 R 115 L [] μ ↔ R none μ := us_vret dX0_passYear_115 rfl
theorem s38 {d : Nat} {R : gR} {μ : gM} {o : Nat} : gc_S (d + 1) 38 [.ref o] μ R ↔ gc_W (gc_S d) cX0_passYear 0 2 R 0 [.ref o, .retAddr 0, .retAddr 0, .retAddr 0] [] μ := us_call (gm_38) rfl rfl
theorem dX0_drawn_0 : decode cX0_drawn 0 = .ok (.aload_n 0, 1) := by decide +kernel
theorem dX0_drawn_1 : decode cX0_drawn 1 = .ok (.aload_n 0, 1) := by decide +kernel
theorem dX0_drawn_2 : decode cX0_drawn 2 = .ok (.getfield 45, 3) := by decide +kernel
theorem dX0_drawn_5 : decode cX0_drawn 5 = .ok (.ldc 150, 2) := by decide +kernel
theorem dX0_drawn_7 : decode cX0_drawn 7 = .ok (.imul, 1) := by decide +kernel
theorem dX0_drawn_8 : decode cX0_drawn 8 = .ok (.sipush 12345, 3) := by decide +kernel
theorem dX0_drawn_11 : decode cX0_drawn 11 = .ok (.iadd, 1) := by decide +kernel
theorem dX0_drawn_12 : decode cX0_drawn 12 = .ok (.putfield 45, 3) := by decide +kernel
theorem dX0_drawn_15 : decode cX0_drawn 15 = .ok (.aload_n 0, 1) := by decide +kernel
theorem dX0_drawn_16 : decode cX0_drawn 16 = .ok (.getfield 45, 3) := by decide +kernel
theorem dX0_drawn_19 : decode cX0_drawn 19 = .ok (.bipush 8, 2) := by decide +kernel
theorem dX0_drawn_21 : decode cX0_drawn 21 = .ok (.iushr, 1) := by decide +kernel
theorem dX0_drawn_22 : decode cX0_drawn 22 = .ok (.ireturn, 1) := by decide +kernel
theorem u39_0 {d : Nat} {R : gR} {μ : gM} {st : List Value} {x : Nat}  : gc_W (gc_S d) cX0_drawn 0 0 R 0 [.ref x] st μ ↔ gc_W (gc_S d) cX0_drawn 0 0 R 1 [.ref x] (.ref x :: st) μ := us_aload_n dX0_drawn_0 rfl
theorem u39_1 {d : Nat} {R : gR} {μ : gM} {st : List Value} {x : Nat}  : gc_W (gc_S d) cX0_drawn 0 0 R 1 [.ref x] st μ ↔ gc_W (gc_S d) cX0_drawn 0 0 R 2 [.ref x] (.ref x :: st) μ := us_aload_n dX0_drawn_1 rfl
theorem u39_2 {d : Nat} {R : gR} {μ : gM} {L : List Value} {st : List Value} {o : Nat} (hk : gc_kd o = 0) : gc_W (gc_S d) cX0_drawn 0 0 R 2 L (.ref o :: st) μ ↔ gc_W (gc_S d) cX0_drawn 0 0 R 5 L (gc_fv o 14 μ :: st) μ := us_getf dX0_drawn_2 gf_0_45 hk
theorem u39_5 {d : Nat} {R : gR} {μ : gM} {L : List Value} {st : List Value}   : gc_W (gc_S d) cX0_drawn 0 0 R 5 L st μ ↔ gc_W (gc_S d) cX0_drawn 0 0 R 7 L (.int 1103515245 :: st) μ := us_ldc dX0_drawn_5 gk_0_150
theorem u39_7 {d : Nat} {R : gR} {μ : gM} {L : List Value} {st : List Value} {x y : Int32}  : gc_W (gc_S d) cX0_drawn 0 0 R 7 L (.int y :: .int x :: st) μ ↔ gc_W (gc_S d) cX0_drawn 0 0 R 8 L (.int (x * y) :: st) μ := us_imul dX0_drawn_7
theorem u39_8 {d : Nat} {R : gR} {μ : gM} {L : List Value} {st : List Value}   : gc_W (gc_S d) cX0_drawn 0 0 R 8 L st μ ↔ gc_W (gc_S d) cX0_drawn 0 0 R 11 L (.int 12345 :: st) μ := us_sipush dX0_drawn_8 ci_sipush_12345
theorem u39_11 {d : Nat} {R : gR} {μ : gM} {L : List Value} {st : List Value} {x y : Int32}  : gc_W (gc_S d) cX0_drawn 0 0 R 11 L (.int y :: .int x :: st) μ ↔ gc_W (gc_S d) cX0_drawn 0 0 R 12 L (.int (x + y) :: st) μ := us_iadd dX0_drawn_11
theorem u39_12 {d : Nat} {R : gR} {μ : gM} {L : List Value} {st : List Value} {o : Nat} {x : Int32} (hk : gc_kd o = 0) (hj : gc_fk o 14 = 0) : gc_W (gc_S d) cX0_drawn 0 0 R 12 L (.int x :: .ref o :: st) μ ↔ gc_W (gc_S d) cX0_drawn 0 0 R 15 L st (gc_up μ o 14 x) := us_putf dX0_drawn_12 gf_0_45 hk hj rfl
theorem u39_15 {d : Nat} {R : gR} {μ : gM} {st : List Value} {x : Nat}  : gc_W (gc_S d) cX0_drawn 0 0 R 15 [.ref x] st μ ↔ gc_W (gc_S d) cX0_drawn 0 0 R 16 [.ref x] (.ref x :: st) μ := us_aload_n dX0_drawn_15 rfl
theorem u39_16 {d : Nat} {R : gR} {μ : gM} {L : List Value} {st : List Value} {o : Nat} (hk : gc_kd o = 0) : gc_W (gc_S d) cX0_drawn 0 0 R 16 L (.ref o :: st) μ ↔ gc_W (gc_S d) cX0_drawn 0 0 R 19 L (gc_fv o 14 μ :: st) μ := us_getf dX0_drawn_16 gf_0_45 hk
theorem u39_19 {d : Nat} {R : gR} {μ : gM} {L : List Value} {st : List Value}   : gc_W (gc_S d) cX0_drawn 0 0 R 19 L st μ ↔ gc_W (gc_S d) cX0_drawn 0 0 R 21 L (.int 8 :: st) μ := us_bipush dX0_drawn_19 ci_bipush_8
theorem u39_21 {d : Nat} {R : gR} {μ : gM} {L : List Value} {st : List Value} {x y : Int32}  : gc_W (gc_S d) cX0_drawn 0 0 R 21 L (.int y :: .int x :: st) μ ↔ gc_W (gc_S d) cX0_drawn 0 0 R 22 L (.int ((x.toUInt32 >>> (y.toUInt32 &&& Int32.toUInt32 31)).toInt32) :: st) μ := us_iushr dX0_drawn_21
theorem u39_22 {d : Nat} {R : gR} {μ : gM} {L : List Value} {v : Int32}  : gc_W (gc_S d) cX0_drawn 0 0 R 22 L [.int v] μ ↔ R (some (.int v)) μ := us_iret dX0_drawn_22 rfl
theorem s39 {d : Nat} {R : gR} {μ : gM} {o : Nat} : gc_S (d + 1) 39 [.ref o] μ R ↔ gc_W (gc_S d) cX0_drawn 0 0 R 0 [.ref o] [] μ := us_call (gm_39) rfl rfl
theorem dX0_drawWhoAndWhere_0 : decode cX0_drawWhoAndWhere 0 = .ok (.aload_n 0, 1) := by decide +kernel
theorem dX0_drawWhoAndWhere_1 : decode cX0_drawWhoAndWhere 1 = .ok (.invokevirtual 147, 3) := by decide +kernel
theorem dX0_drawWhoAndWhere_4 : decode cX0_drawWhoAndWhere 4 = .ok (.bipush 8, 2) := by decide +kernel
theorem dX0_drawWhoAndWhere_6 : decode cX0_drawWhoAndWhere 6 = .ok (.irem, 1) := by decide +kernel
theorem dX0_drawWhoAndWhere_7 : decode cX0_drawWhoAndWhere 7 = .ok (.istore_n 1, 1) := by decide +kernel
theorem dX0_drawWhoAndWhere_8 : decode cX0_drawWhoAndWhere 8 = .ok (.aload_n 0, 1) := by decide +kernel
theorem dX0_drawWhoAndWhere_9 : decode cX0_drawWhoAndWhere 9 = .ok (.invokevirtual 147, 3) := by decide +kernel
theorem dX0_drawWhoAndWhere_12 : decode cX0_drawWhoAndWhere 12 = .ok (.bipush 16, 2) := by decide +kernel
theorem dX0_drawWhoAndWhere_14 : decode cX0_drawWhoAndWhere 14 = .ok (.irem, 1) := by decide +kernel
theorem dX0_drawWhoAndWhere_15 : decode cX0_drawWhoAndWhere 15 = .ok (.istore_n 2, 1) := by decide +kernel
theorem dX0_drawWhoAndWhere_16 : decode cX0_drawWhoAndWhere 16 = .ok (.aload_n 0, 1) := by decide +kernel
theorem dX0_drawWhoAndWhere_17 : decode cX0_drawWhoAndWhere 17 = .ok (.getfield 18, 3) := by decide +kernel
theorem dX0_drawWhoAndWhere_20 : decode cX0_drawWhoAndWhere 20 = .ok (.aload_n 0, 1) := by decide +kernel
theorem dX0_drawWhoAndWhere_21 : decode cX0_drawWhoAndWhere 21 = .ok (.getfield 66, 3) := by decide +kernel
theorem dX0_drawWhoAndWhere_24 : decode cX0_drawWhoAndWhere 24 = .ok (.bipush 6, 2) := by decide +kernel
theorem dX0_drawWhoAndWhere_26 : decode cX0_drawWhoAndWhere 26 = .ok (.irem, 1) := by decide +kernel
theorem dX0_drawWhoAndWhere_27 : decode cX0_drawWhoAndWhere 27 = .ok (.iload_n 1, 1) := by decide +kernel
theorem dX0_drawWhoAndWhere_28 : decode cX0_drawWhoAndWhere 28 = .ok (.iastore, 1) := by decide +kernel
theorem dX0_drawWhoAndWhere_29 : decode cX0_drawWhoAndWhere 29 = .ok (.iload_n 1, 1) := by decide +kernel
theorem dX0_drawWhoAndWhere_30 : decode cX0_drawWhoAndWhere 30 = .ok (.aload_n 0, 1) := by decide +kernel
theorem dX0_drawWhoAndWhere_31 : decode cX0_drawWhoAndWhere 31 = .ok (.getfield 69, 3) := by decide +kernel
theorem dX0_drawWhoAndWhere_34 : decode cX0_drawWhoAndWhere 34 = .ok (.if_icmp .ge 10, 3) := by decide +kernel
theorem dX0_drawWhoAndWhere_37 : decode cX0_drawWhoAndWhere 37 = .ok (.aload_n 0, 1) := by decide +kernel
theorem dX0_drawWhoAndWhere_38 : decode cX0_drawWhoAndWhere 38 = .ok (.getfield 30, 3) := by decide +kernel
theorem dX0_drawWhoAndWhere_41 : decode cX0_drawWhoAndWhere 41 = .ok (.iload_n 1, 1) := by decide +kernel
theorem dX0_drawWhoAndWhere_42 : decode cX0_drawWhoAndWhere 42 = .ok (.iload_n 2, 1) := by decide +kernel
theorem dX0_drawWhoAndWhere_43 : decode cX0_drawWhoAndWhere 43 = .ok (.iastore, 1) := by decide +kernel
theorem dX0_drawWhoAndWhere_44 : decode cX0_drawWhoAndWhere 44 = .ok (.return_, 1) := by decide +kernel
theorem u40_0 {d : Nat} {R : gR} {μ : gM} {l1 l2 : Value} {st : List Value} {x : Nat}  : gc_W (gc_S d) cX0_drawWhoAndWhere 0 2 R 0 [.ref x, l1, l2] st μ ↔ gc_W (gc_S d) cX0_drawWhoAndWhere 0 2 R 1 [.ref x, l1, l2] (.ref x :: st) μ := us_aload_n dX0_drawWhoAndWhere_0 rfl
theorem u40_1 {d : Nat} {R : gR} {μ : gM} {L : List Value} {o : Nat} (hk : gc_kd o = 0) : gc_W (gc_S d) cX0_drawWhoAndWhere 0 2 R 1 L [.ref o] μ ↔ gc_S d 39 [.ref o] μ (fun v μ' => gc_W (gc_S d) cX0_drawWhoAndWhere 0 2 R 4 L (v.toList ++ []) μ') := us_virt dX0_drawWhoAndWhere_1 gn_0_147 gc_0_147_0 hk rfl rfl rfl rfl rfl
theorem u40_4 {d : Nat} {R : gR} {μ : gM} {L : List Value} {st : List Value}   : gc_W (gc_S d) cX0_drawWhoAndWhere 0 2 R 4 L st μ ↔ gc_W (gc_S d) cX0_drawWhoAndWhere 0 2 R 6 L (.int 8 :: st) μ := us_bipush dX0_drawWhoAndWhere_4 ci_bipush_8
theorem u40_6 {d : Nat} {R : gR} {μ : gM} {L : List Value} {st : List Value} {x y : Int32}  : gc_W (gc_S d) cX0_drawWhoAndWhere 0 2 R 6 L (.int y :: .int x :: st) μ ↔ (¬ y = 0 ∧ gc_W (gc_S d) cX0_drawWhoAndWhere 0 2 R 7 L (.int (x - x / y * y) :: st) μ) := us_irem dX0_drawWhoAndWhere_6
theorem u40_7 {d : Nat} {R : gR} {μ : gM} {l0 l1 l2 : Value} {st : List Value} {x : Int32} (hs : gc_sk l1 = true) : gc_W (gc_S d) cX0_drawWhoAndWhere 0 2 R 7 [l0, l1, l2] (.int x :: st) μ ↔ gc_W (gc_S d) cX0_drawWhoAndWhere 0 2 R 8 [l0, .int x, l2] st μ := us_istore_n dX0_drawWhoAndWhere_7 rfl hs
theorem u40_8 {d : Nat} {R : gR} {μ : gM} {l1 l2 : Value} {st : List Value} {x : Nat}  : gc_W (gc_S d) cX0_drawWhoAndWhere 0 2 R 8 [.ref x, l1, l2] st μ ↔ gc_W (gc_S d) cX0_drawWhoAndWhere 0 2 R 9 [.ref x, l1, l2] (.ref x :: st) μ := us_aload_n dX0_drawWhoAndWhere_8 rfl
theorem u40_9 {d : Nat} {R : gR} {μ : gM} {L : List Value} {o : Nat} (hk : gc_kd o = 0) : gc_W (gc_S d) cX0_drawWhoAndWhere 0 2 R 9 L [.ref o] μ ↔ gc_S d 39 [.ref o] μ (fun v μ' => gc_W (gc_S d) cX0_drawWhoAndWhere 0 2 R 12 L (v.toList ++ []) μ') := us_virt dX0_drawWhoAndWhere_9 gn_0_147 gc_0_147_0 hk rfl rfl rfl rfl rfl
theorem u40_12 {d : Nat} {R : gR} {μ : gM} {L : List Value} {st : List Value}   : gc_W (gc_S d) cX0_drawWhoAndWhere 0 2 R 12 L st μ ↔ gc_W (gc_S d) cX0_drawWhoAndWhere 0 2 R 14 L (.int 16 :: st) μ := us_bipush dX0_drawWhoAndWhere_12 ci_bipush_16
theorem u40_14 {d : Nat} {R : gR} {μ : gM} {L : List Value} {st : List Value} {x y : Int32}  : gc_W (gc_S d) cX0_drawWhoAndWhere 0 2 R 14 L (.int y :: .int x :: st) μ ↔ (¬ y = 0 ∧ gc_W (gc_S d) cX0_drawWhoAndWhere 0 2 R 15 L (.int (x - x / y * y) :: st) μ) := us_irem dX0_drawWhoAndWhere_14
theorem u40_15 {d : Nat} {R : gR} {μ : gM} {l0 l1 l2 : Value} {st : List Value} {x : Int32} (hs : gc_sk l2 = true) : gc_W (gc_S d) cX0_drawWhoAndWhere 0 2 R 15 [l0, l1, l2] (.int x :: st) μ ↔ gc_W (gc_S d) cX0_drawWhoAndWhere 0 2 R 16 [l0, l1, .int x] st μ := us_istore_n dX0_drawWhoAndWhere_15 rfl hs
theorem u40_16 {d : Nat} {R : gR} {μ : gM} {l1 l2 : Value} {st : List Value} {x : Nat}  : gc_W (gc_S d) cX0_drawWhoAndWhere 0 2 R 16 [.ref x, l1, l2] st μ ↔ gc_W (gc_S d) cX0_drawWhoAndWhere 0 2 R 17 [.ref x, l1, l2] (.ref x :: st) μ := us_aload_n dX0_drawWhoAndWhere_16 rfl
theorem u40_17 {d : Nat} {R : gR} {μ : gM} {L : List Value} {st : List Value} {o : Nat} (hk : gc_kd o = 0) : gc_W (gc_S d) cX0_drawWhoAndWhere 0 2 R 17 L (.ref o :: st) μ ↔ gc_W (gc_S d) cX0_drawWhoAndWhere 0 2 R 20 L (gc_fv o 4 μ :: st) μ := us_getf dX0_drawWhoAndWhere_17 gf_0_18 hk
theorem u40_20 {d : Nat} {R : gR} {μ : gM} {l1 l2 : Value} {st : List Value} {x : Nat}  : gc_W (gc_S d) cX0_drawWhoAndWhere 0 2 R 20 [.ref x, l1, l2] st μ ↔ gc_W (gc_S d) cX0_drawWhoAndWhere 0 2 R 21 [.ref x, l1, l2] (.ref x :: st) μ := us_aload_n dX0_drawWhoAndWhere_20 rfl
theorem u40_21 {d : Nat} {R : gR} {μ : gM} {L : List Value} {st : List Value} {o : Nat} (hk : gc_kd o = 0) : gc_W (gc_S d) cX0_drawWhoAndWhere 0 2 R 21 L (.ref o :: st) μ ↔ gc_W (gc_S d) cX0_drawWhoAndWhere 0 2 R 24 L (gc_fv o 12 μ :: st) μ := us_getf dX0_drawWhoAndWhere_21 gf_0_66 hk
theorem u40_24 {d : Nat} {R : gR} {μ : gM} {L : List Value} {st : List Value}   : gc_W (gc_S d) cX0_drawWhoAndWhere 0 2 R 24 L st μ ↔ gc_W (gc_S d) cX0_drawWhoAndWhere 0 2 R 26 L (.int 6 :: st) μ := us_bipush dX0_drawWhoAndWhere_24 ci_bipush_6
theorem u40_26 {d : Nat} {R : gR} {μ : gM} {L : List Value} {st : List Value} {x y : Int32}  : gc_W (gc_S d) cX0_drawWhoAndWhere 0 2 R 26 L (.int y :: .int x :: st) μ ↔ (¬ y = 0 ∧ gc_W (gc_S d) cX0_drawWhoAndWhere 0 2 R 27 L (.int (x - x / y * y) :: st) μ) := us_irem dX0_drawWhoAndWhere_26
theorem u40_27 {d : Nat} {R : gR} {μ : gM} {l0 l2 : Value} {st : List Value} {x : Int32}  : gc_W (gc_S d) cX0_drawWhoAndWhere 0 2 R 27 [l0, .int x, l2] st μ ↔ gc_W (gc_S d) cX0_drawWhoAndWhere 0 2 R 28 [l0, .int x, l2] (.int x :: st) μ := us_iload_n dX0_drawWhoAndWhere_27 rfl
theorem u40_28 {d : Nat} {R : gR} {μ : gM} {L : List Value} {st : List Value} {o : Nat} {i x : Int32} (hk : gc_kd o = 20) : gc_W (gc_S d) cX0_drawWhoAndWhere 0 2 R 28 L (.int x :: .int i :: .ref o :: st) μ ↔ (vp_in i (gc_al o) ∧ gc_W (gc_S d) cX0_drawWhoAndWhere 0 2 R 29 L st (gc_up μ o i.toNatClampNeg x)) := us_iast dX0_drawWhoAndWhere_28 hk
theorem u40_29 {d : Nat} {R : gR} {μ : gM} {l0 l2 : Value} {st : List Value} {x : Int32}  : gc_W (gc_S d) cX0_drawWhoAndWhere 0 2 R 29 [l0, .int x, l2] st μ ↔ gc_W (gc_S d) cX0_drawWhoAndWhere 0 2 R 30 [l0, .int x, l2] (.int x :: st) μ := us_iload_n dX0_drawWhoAndWhere_29 rfl
theorem u40_30 {d : Nat} {R : gR} {μ : gM} {l1 l2 : Value} {st : List Value} {x : Nat}  : gc_W (gc_S d) cX0_drawWhoAndWhere 0 2 R 30 [.ref x, l1, l2] st μ ↔ gc_W (gc_S d) cX0_drawWhoAndWhere 0 2 R 31 [.ref x, l1, l2] (.ref x :: st) μ := us_aload_n dX0_drawWhoAndWhere_30 rfl
theorem u40_31 {d : Nat} {R : gR} {μ : gM} {L : List Value} {st : List Value} {o : Nat} (hk : gc_kd o = 0) : gc_W (gc_S d) cX0_drawWhoAndWhere 0 2 R 31 L (.ref o :: st) μ ↔ gc_W (gc_S d) cX0_drawWhoAndWhere 0 2 R 34 L (gc_fv o 13 μ :: st) μ := us_getf dX0_drawWhoAndWhere_31 gf_0_69 hk
theorem u40_34 {d : Nat} {R : gR} {μ : gM} {L : List Value} {st : List Value} {x y : Int32}  : gc_W (gc_S d) cX0_drawWhoAndWhere 0 2 R 34 L (.int y :: .int x :: st) μ ↔ if y ≤ x then gc_W (gc_S d) cX0_drawWhoAndWhere 0 2 R 44 L st μ else gc_W (gc_S d) cX0_drawWhoAndWhere 0 2 R 37 L st μ := us_icge dX0_drawWhoAndWhere_34 rfl
theorem u40_37 {d : Nat} {R : gR} {μ : gM} {l1 l2 : Value} {st : List Value} {x : Nat}  : gc_W (gc_S d) cX0_drawWhoAndWhere 0 2 R 37 [.ref x, l1, l2] st μ ↔ gc_W (gc_S d) cX0_drawWhoAndWhere 0 2 R 38 [.ref x, l1, l2] (.ref x :: st) μ := us_aload_n dX0_drawWhoAndWhere_37 rfl
theorem u40_38 {d : Nat} {R : gR} {μ : gM} {L : List Value} {st : List Value} {o : Nat} (hk : gc_kd o = 0) : gc_W (gc_S d) cX0_drawWhoAndWhere 0 2 R 38 L (.ref o :: st) μ ↔ gc_W (gc_S d) cX0_drawWhoAndWhere 0 2 R 41 L (gc_fv o 8 μ :: st) μ := us_getf dX0_drawWhoAndWhere_38 gf_0_30 hk
theorem u40_41 {d : Nat} {R : gR} {μ : gM} {l0 l2 : Value} {st : List Value} {x : Int32}  : gc_W (gc_S d) cX0_drawWhoAndWhere 0 2 R 41 [l0, .int x, l2] st μ ↔ gc_W (gc_S d) cX0_drawWhoAndWhere 0 2 R 42 [l0, .int x, l2] (.int x :: st) μ := us_iload_n dX0_drawWhoAndWhere_41 rfl
theorem u40_42 {d : Nat} {R : gR} {μ : gM} {l0 l1 : Value} {st : List Value} {x : Int32}  : gc_W (gc_S d) cX0_drawWhoAndWhere 0 2 R 42 [l0, l1, .int x] st μ ↔ gc_W (gc_S d) cX0_drawWhoAndWhere 0 2 R 43 [l0, l1, .int x] (.int x :: st) μ := us_iload_n dX0_drawWhoAndWhere_42 rfl
theorem u40_43 {d : Nat} {R : gR} {μ : gM} {L : List Value} {st : List Value} {o : Nat} {i x : Int32} (hk : gc_kd o = 20) : gc_W (gc_S d) cX0_drawWhoAndWhere 0 2 R 43 L (.int x :: .int i :: .ref o :: st) μ ↔ (vp_in i (gc_al o) ∧ gc_W (gc_S d) cX0_drawWhoAndWhere 0 2 R 44 L st (gc_up μ o i.toNatClampNeg x)) := us_iast dX0_drawWhoAndWhere_43 hk
theorem u40_44 {d : Nat} {R : gR} {μ : gM} {L : List Value}   : gc_W (gc_S d) cX0_drawWhoAndWhere 0 2 R 44 L [] μ ↔ R none μ := us_vret dX0_drawWhoAndWhere_44 rfl
theorem s40 {d : Nat} {R : gR} {μ : gM} {o : Nat} : gc_S (d + 1) 40 [.ref o] μ R ↔ gc_W (gc_S d) cX0_drawWhoAndWhere 0 2 R 0 [.ref o, .retAddr 0, .retAddr 0] [] μ := us_call (gm_40) rfl rfl
