/-! a rewriting row an instruction -/
section US
variable {d k b pc : Nat} {cc : ByteArray} {R : gR} {L st : List Value} {μ : gM}
theorem us_iconst {n : Int} {v : Int32} (hd : decode cc pc = .ok (.iconst n, 1)) (hv : Int32.ofInt n = v) : gc_W (gc_S d) cc k b R pc L st μ ↔ gc_W (gc_S d) cc k b R (pc + 1) L (.int v :: st) μ := by subst hv; exact (gc_step (gc_SC d) hd).trans Iff.rfl
theorem us_bipush {n : Int} {v : Int32} (hd : decode cc pc = .ok (.bipush n, 2)) (hv : (Int8.ofInt n).toInt32 = v) : gc_W (gc_S d) cc k b R pc L st μ ↔ gc_W (gc_S d) cc k b R (pc + 2) L (.int v :: st) μ := by subst hv; exact (gc_step (gc_SC d) hd).trans Iff.rfl
theorem us_sipush {n : Int} {v : Int32} (hd : decode cc pc = .ok (.sipush n, 3)) (hv : (Int16.ofInt n).toInt32 = v) : gc_W (gc_S d) cc k b R pc L st μ ↔ gc_W (gc_S d) cc k b R (pc + 3) L (.int v :: st) μ := by subst hv; exact (gc_step (gc_SC d) hd).trans Iff.rfl
theorem us_lconst {n : Fin 2} {v : Int64} (hd : decode cc pc = .ok (.lconst n, 1)) (hv : Int64.ofNat (n : Nat) = v) : gc_W (gc_S d) cc k b R pc L st μ ↔ gc_W (gc_S d) cc k b R (pc + 1) L (.long v :: st) μ := by subst hv; exact (gc_step (gc_SC d) hd).trans Iff.rfl
theorem us_iload_n {n : Fin 4} {x : Int32} (hd : decode cc pc = .ok (.iload_n n, 1)) (hl : L[(n : Nat)]? = some (.int x)) : gc_W (gc_S d) cc k b R pc L st μ ↔ gc_W (gc_S d) cc k b R (pc + 1) L (.int x :: st) μ := (gc_step (gc_SC d) hd).trans (by show gc_gi L (n : Nat) _ ↔ _; unfold gc_gi; rw [hl])
theorem us_iload {n : Nat} {x : Int32} (hd : decode cc pc = .ok (.iload n, 2)) (hl : L[n]? = some (.int x)) : gc_W (gc_S d) cc k b R pc L st μ ↔ gc_W (gc_S d) cc k b R (pc + 2) L (.int x :: st) μ := (gc_step (gc_SC d) hd).trans (by show gc_gi L n _ ↔ _; unfold gc_gi; rw [hl])
theorem us_lload_n {n : Fin 4} {x : Int64} (hd : decode cc pc = .ok (.lload_n n, 1)) (hl : L[(n : Nat)]? = some (.long x)) : gc_W (gc_S d) cc k b R pc L st μ ↔ gc_W (gc_S d) cc k b R (pc + 1) L (.long x :: st) μ := (gc_step (gc_SC d) hd).trans (by show gc_gl L (n : Nat) _ ↔ _; unfold gc_gl; rw [hl])
theorem us_lload {n : Nat} {x : Int64} (hd : decode cc pc = .ok (.lload n, 2)) (hl : L[n]? = some (.long x)) : gc_W (gc_S d) cc k b R pc L st μ ↔ gc_W (gc_S d) cc k b R (pc + 2) L (.long x :: st) μ := (gc_step (gc_SC d) hd).trans (by show gc_gl L n _ ↔ _; unfold gc_gl; rw [hl])
theorem us_aload_n {n : Fin 4} {x : Nat} (hd : decode cc pc = .ok (.aload_n n, 1)) (hl : L[(n : Nat)]? = some (.ref x)) : gc_W (gc_S d) cc k b R pc L st μ ↔ gc_W (gc_S d) cc k b R (pc + 1) L (.ref x :: st) μ := (gc_step (gc_SC d) hd).trans (by show gc_gr L (n : Nat) _ ↔ _; unfold gc_gr; rw [hl])
theorem us_aload {n : Nat} {x : Nat} (hd : decode cc pc = .ok (.aload n, 2)) (hl : L[n]? = some (.ref x)) : gc_W (gc_S d) cc k b R pc L st μ ↔ gc_W (gc_S d) cc k b R (pc + 2) L (.ref x :: st) μ := (gc_step (gc_SC d) hd).trans (by show gc_gr L n _ ↔ _; unfold gc_gr; rw [hl])
theorem us_istore_n {n : Fin 4} {x : Int32} {w : Value} (hd : decode cc pc = .ok (.istore_n n, 1)) (hl : L[(n : Nat)]? = some w) (hs : gc_sk w = true) : gc_W (gc_S d) cc k b R pc L (.int x :: st) μ ↔ gc_W (gc_S d) cc k b R (pc + 1) (L.set (n : Nat) (.int x)) st μ := (gc_step (gc_SC d) hd).trans (by show gc_so L (n : Nat) _ ↔ _; unfold gc_so; rw [hl]; show gc_B (gc_sk w) _ ↔ _; rw [hs]; exact Iff.rfl)
theorem us_istore {n : Nat} {x : Int32} {w : Value} (hd : decode cc pc = .ok (.istore n, 2)) (hl : L[n]? = some w) (hs : gc_sk w = true) : gc_W (gc_S d) cc k b R pc L (.int x :: st) μ ↔ gc_W (gc_S d) cc k b R (pc + 2) (L.set n (.int x)) st μ := (gc_step (gc_SC d) hd).trans (by show gc_so L n _ ↔ _; unfold gc_so; rw [hl]; show gc_B (gc_sk w) _ ↔ _; rw [hs]; exact Iff.rfl)
theorem us_astore_n {n : Fin 4} {x : Nat} {w : Value} (hd : decode cc pc = .ok (.astore_n n, 1)) (hl : L[(n : Nat)]? = some w) (hs : gc_sk w = true) : gc_W (gc_S d) cc k b R pc L (.ref x :: st) μ ↔ gc_W (gc_S d) cc k b R (pc + 1) (L.set (n : Nat) (.ref x)) st μ := (gc_step (gc_SC d) hd).trans (by show gc_so L (n : Nat) _ ↔ _; unfold gc_so; rw [hl]; show gc_B (gc_sk w) _ ↔ _; rw [hs]; exact Iff.rfl)
theorem us_astore {n : Nat} {x : Nat} {w : Value} (hd : decode cc pc = .ok (.astore n, 2)) (hl : L[n]? = some w) (hs : gc_sk w = true) : gc_W (gc_S d) cc k b R pc L (.ref x :: st) μ ↔ gc_W (gc_S d) cc k b R (pc + 2) (L.set n (.ref x)) st μ := (gc_step (gc_SC d) hd).trans (by show gc_so L n _ ↔ _; unfold gc_so; rw [hl]; show gc_B (gc_sk w) _ ↔ _; rw [hs]; exact Iff.rfl)
theorem us_iinc {n : Nat} {z : Int} {x v : Int32} (hd : decode cc pc = .ok (.iinc n z, 3)) (hl : L[n]? = some (.int x)) (hv : Int32.ofInt z = v) : gc_W (gc_S d) cc k b R pc L st μ ↔ gc_W (gc_S d) cc k b R (pc + 3) (L.set n (.int (x + v))) st μ := by subst hv; exact (gc_step (gc_SC d) hd).trans (by show gc_gi L n _ ↔ _; unfold gc_gi; rw [hl])
theorem us_iadd {x y : Int32} (hd : decode cc pc = .ok (.iadd, 1)) : gc_W (gc_S d) cc k b R pc L (.int y :: .int x :: st) μ ↔ gc_W (gc_S d) cc k b R (pc + 1) L (.int (x + y) :: st) μ := (gc_step (gc_SC d) hd).trans (Iff.rfl)
theorem us_isub {x y : Int32} (hd : decode cc pc = .ok (.isub, 1)) : gc_W (gc_S d) cc k b R pc L (.int y :: .int x :: st) μ ↔ gc_W (gc_S d) cc k b R (pc + 1) L (.int (x - y) :: st) μ := (gc_step (gc_SC d) hd).trans (Iff.rfl)
theorem us_imul {x y : Int32} (hd : decode cc pc = .ok (.imul, 1)) : gc_W (gc_S d) cc k b R pc L (.int y :: .int x :: st) μ ↔ gc_W (gc_S d) cc k b R (pc + 1) L (.int (x * y) :: st) μ := (gc_step (gc_SC d) hd).trans (Iff.rfl)
theorem us_iand {x y : Int32} (hd : decode cc pc = .ok (.iand, 1)) : gc_W (gc_S d) cc k b R pc L (.int y :: .int x :: st) μ ↔ gc_W (gc_S d) cc k b R (pc + 1) L (.int (x &&& y) :: st) μ := (gc_step (gc_SC d) hd).trans (Iff.rfl)
theorem us_ior {x y : Int32} (hd : decode cc pc = .ok (.ior, 1)) : gc_W (gc_S d) cc k b R pc L (.int y :: .int x :: st) μ ↔ gc_W (gc_S d) cc k b R (pc + 1) L (.int (x ||| y) :: st) μ := (gc_step (gc_SC d) hd).trans (Iff.rfl)
theorem us_ixor {x y : Int32} (hd : decode cc pc = .ok (.ixor, 1)) : gc_W (gc_S d) cc k b R pc L (.int y :: .int x :: st) μ ↔ gc_W (gc_S d) cc k b R (pc + 1) L (.int (x ^^^ y) :: st) μ := (gc_step (gc_SC d) hd).trans (Iff.rfl)
theorem us_ishl {x y : Int32} (hd : decode cc pc = .ok (.ishl, 1)) : gc_W (gc_S d) cc k b R pc L (.int y :: .int x :: st) μ ↔ gc_W (gc_S d) cc k b R (pc + 1) L (.int (x <<< (y &&& 31)) :: st) μ := (gc_step (gc_SC d) hd).trans (Iff.rfl)
theorem us_ishr {x y : Int32} (hd : decode cc pc = .ok (.ishr, 1)) : gc_W (gc_S d) cc k b R pc L (.int y :: .int x :: st) μ ↔ gc_W (gc_S d) cc k b R (pc + 1) L (.int (x >>> (y &&& 31)) :: st) μ := (gc_step (gc_SC d) hd).trans (Iff.rfl)
theorem us_iushr {x y : Int32} (hd : decode cc pc = .ok (.iushr, 1)) : gc_W (gc_S d) cc k b R pc L (.int y :: .int x :: st) μ ↔ gc_W (gc_S d) cc k b R (pc + 1) L (.int ((x.toUInt32 >>> (y.toUInt32 &&& Int32.toUInt32 31)).toInt32) :: st) μ := (gc_step (gc_SC d) hd).trans (Iff.rfl)
theorem us_idiv {x y : Int32} (hd : decode cc pc = .ok (.idiv, 1)) : gc_W (gc_S d) cc k b R pc L (.int y :: .int x :: st) μ ↔ (¬ y = 0 ∧ gc_W (gc_S d) cc k b R (pc + 1) L (.int (x / y) :: st) μ) := (gc_step (gc_SC d) hd).trans (Iff.rfl)
theorem us_irem {x y : Int32} (hd : decode cc pc = .ok (.irem, 1)) : gc_W (gc_S d) cc k b R pc L (.int y :: .int x :: st) μ ↔ (¬ y = 0 ∧ gc_W (gc_S d) cc k b R (pc + 1) L (.int (x - x / y * y) :: st) μ) := (gc_step (gc_SC d) hd).trans (Iff.rfl)
theorem us_ineg {x : Int32} (hd : decode cc pc = .ok (.ineg, 1)) : gc_W (gc_S d) cc k b R pc L (.int x :: st) μ ↔ gc_W (gc_S d) cc k b R (pc + 1) L (.int (-x) :: st) μ := (gc_step (gc_SC d) hd).trans (Iff.rfl)
theorem us_i2b {x : Int32} (hd : decode cc pc = .ok (.i2b, 1)) : gc_W (gc_S d) cc k b R pc L (.int x :: st) μ ↔ gc_W (gc_S d) cc k b R (pc + 1) L (.int (x.toInt8.toInt32) :: st) μ := (gc_step (gc_SC d) hd).trans (Iff.rfl)
theorem us_i2s {x : Int32} (hd : decode cc pc = .ok (.i2s, 1)) : gc_W (gc_S d) cc k b R pc L (.int x :: st) μ ↔ gc_W (gc_S d) cc k b R (pc + 1) L (.int (x.toInt16.toInt32) :: st) μ := (gc_step (gc_SC d) hd).trans (Iff.rfl)
theorem us_i2c {x : Int32} (hd : decode cc pc = .ok (.i2c, 1)) : gc_W (gc_S d) cc k b R pc L (.int x :: st) μ ↔ gc_W (gc_S d) cc k b R (pc + 1) L (.int ((x.toUInt32 % 65536).toInt32) :: st) μ := (gc_step (gc_SC d) hd).trans (Iff.rfl)
theorem us_i2l {x : Int32} (hd : decode cc pc = .ok (.i2l, 1)) : gc_W (gc_S d) cc k b R pc L (.int x :: st) μ ↔ gc_W (gc_S d) cc k b R (pc + 1) L (.long x.toInt64 :: st) μ := (gc_step (gc_SC d) hd).trans (Iff.rfl)
theorem us_l2i {x : Int64} (hd : decode cc pc = .ok (.l2i, 1)) : gc_W (gc_S d) cc k b R pc L (.long x :: st) μ ↔ gc_W (gc_S d) cc k b R (pc + 1) L (.int x.toInt32 :: st) μ := (gc_step (gc_SC d) hd).trans (Iff.rfl)
theorem us_land {x y : Int64} (hd : decode cc pc = .ok (.land, 1)) : gc_W (gc_S d) cc k b R pc L (.long y :: .long x :: st) μ ↔ gc_W (gc_S d) cc k b R (pc + 1) L (.long (x &&& y) :: st) μ := (gc_step (gc_SC d) hd).trans (Iff.rfl)
theorem us_lor {x y : Int64} (hd : decode cc pc = .ok (.lor, 1)) : gc_W (gc_S d) cc k b R pc L (.long y :: .long x :: st) μ ↔ gc_W (gc_S d) cc k b R (pc + 1) L (.long (x ||| y) :: st) μ := (gc_step (gc_SC d) hd).trans (Iff.rfl)
theorem us_lcmp {x y : Int64} (hd : decode cc pc = .ok (.lcmp, 1)) : gc_W (gc_S d) cc k b R pc L (.long y :: .long x :: st) μ ↔ gc_W (gc_S d) cc k b R (pc + 1) L (.int (lg_cmp x y) :: st) μ := (gc_step (gc_SC d) hd).trans (Iff.rfl)
theorem us_lushr {x : Int64} {y : Int32} (hd : decode cc pc = .ok (.lushr, 1)) : gc_W (gc_S d) cc k b R pc L (.int y :: .long x :: st) μ ↔ gc_W (gc_S d) cc k b R (pc + 1) L (.long ((x.toUInt64 >>> (y.toInt64.toUInt64 &&& Int64.toUInt64 63)).toInt64) :: st) μ := (gc_step (gc_SC d) hd).trans (Iff.rfl)
theorem us_lshr {x : Int64} {y : Int32} (hd : decode cc pc = .ok (.lshr, 1)) : gc_W (gc_S d) cc k b R pc L (.int y :: .long x :: st) μ ↔ gc_W (gc_S d) cc k b R (pc + 1) L (.long (x >>> (y.toInt64 &&& 63)) :: st) μ := (gc_step (gc_SC d) hd).trans (Iff.rfl)
theorem us_lshl {x : Int64} {y : Int32} (hd : decode cc pc = .ok (.lshl, 1)) : gc_W (gc_S d) cc k b R pc L (.int y :: .long x :: st) μ ↔ gc_W (gc_S d) cc k b R (pc + 1) L (.long (x <<< (y.toInt64 &&& 63)) :: st) μ := (gc_step (gc_SC d) hd).trans (Iff.rfl)
theorem us_dup_i {x : Int32} (hd : decode cc pc = .ok (.dup, 1)) : gc_W (gc_S d) cc k b R pc L (.int x :: st) μ ↔ gc_W (gc_S d) cc k b R (pc + 1) L (.int x :: .int x :: st) μ := (gc_step (gc_SC d) hd).trans (⟨fun h => h.elim id False.elim, fun h => Or.inl h⟩)
theorem us_dup_r {x : Nat} (hd : decode cc pc = .ok (.dup, 1)) : gc_W (gc_S d) cc k b R pc L (.ref x :: st) μ ↔ gc_W (gc_S d) cc k b R (pc + 1) L (.ref x :: .ref x :: st) μ := (gc_step (gc_SC d) hd).trans (⟨fun h => h.elim False.elim id, fun h => Or.inr h⟩)
theorem us_dup2 {x : Int32} {o : Nat} (hd : decode cc pc = .ok (.dup2, 1)) : gc_W (gc_S d) cc k b R pc L (.int x :: .ref o :: st) μ ↔ gc_W (gc_S d) cc k b R (pc + 1) L (.int x :: .ref o :: .int x :: .ref o :: st) μ := (gc_step (gc_SC d) hd).trans (Iff.rfl)
theorem us_ldc {n : Nat} {v : Int32} (hd : decode cc pc = .ok (.ldc n, 2)) (hk : gc_k k n = some v) : gc_W (gc_S d) cc k b R pc L st μ ↔ gc_W (gc_S d) cc k b R (pc + 2) L (.int v :: st) μ := (gc_step (gc_SC d) hd).trans (by show gc_oe (gc_k k n) _ _ ↔ _; rw [hk]; exact Iff.rfl)
theorem us_ldcs {n v : Nat} (hd : decode cc pc = .ok (.ldc n, 2)) (hk : gc_k k n = none) (hs : gc_sr k n = some v) : gc_W (gc_S d) cc k b R pc L st μ ↔ gc_W (gc_S d) cc k b R (pc + 2) L (.ref v :: st) μ := (gc_step (gc_SC d) hd).trans (by show gc_oe (gc_k k n) _ (gc_oe (gc_sr k n) _ _) ↔ _; rw [hk, hs]; exact Iff.rfl)
theorem us_ldcw {n : Nat} {v : Int32} (hd : decode cc pc = .ok (.ldc_w n, 3)) (hk : gc_k k n = some v) : gc_W (gc_S d) cc k b R pc L st μ ↔ gc_W (gc_S d) cc k b R (pc + 3) L (.int v :: st) μ := (gc_step (gc_SC d) hd).trans (by show gc_oe (gc_k k n) _ _ ↔ _; rw [hk]; exact Iff.rfl)
theorem us_ldc2 {n : Nat} {v : Int64} (hd : decode cc pc = .ok (.ldc2_w n, 3)) (hk : gc_l k n = some v) : gc_W (gc_S d) cc k b R pc L st μ ↔ gc_W (gc_S d) cc k b R (pc + 3) L (.long v :: st) μ := (gc_step (gc_SC d) hd).trans (by show gc_oe (gc_l k n) _ _ ↔ _; rw [hk]; exact Iff.rfl)
theorem us_tk {pc t : Nat} {off : Int} {P : Prop} (ht : (pc : Int) + off = (t : Int)) : gc_tk pc off P ↔ P := by
  unfold gc_tk; rw [ht, decide_eq_true (Int.natCast_nonneg t)]; exact Iff.rfl
theorem us_tg {pc t : Nat} {off : Int} (ht : (pc : Int) + off = (t : Int)) : gc_tg pc off = t := by unfold gc_tg; rw [ht]; rfl
theorem us_ite {P A B : Prop} [Decidable P] : ((P → A) ∧ (¬ P → B)) ↔ if P then A else B := by
  by_cases h : P <;> simp [h]
theorem us_ifeq {x : Int32} {off : Int} {t : Nat} (hd : decode cc pc = .ok (.ifCond .eq off, 3)) (ht : (pc : Int) + off = (t : Int)) : gc_W (gc_S d) cc k b R pc L (.int x :: st) μ ↔ if x = 0 then gc_W (gc_S d) cc k b R t L st μ else gc_W (gc_S d) cc k b R (pc + 3) L st μ := (gc_step (gc_SC d) hd).trans ((us_tk ht).trans (by rw [us_tg ht]; exact us_ite (P := x = 0)))
theorem us_ifne {x : Int32} {off : Int} {t : Nat} (hd : decode cc pc = .ok (.ifCond .ne off, 3)) (ht : (pc : Int) + off = (t : Int)) : gc_W (gc_S d) cc k b R pc L (.int x :: st) μ ↔ if x = 0 then gc_W (gc_S d) cc k b R (pc + 3) L st μ else gc_W (gc_S d) cc k b R t L st μ := (gc_step (gc_SC d) hd).trans ((us_tk ht).trans (by rw [us_tg ht]; exact ((and_congr Iff.rfl (by show (¬ ¬ x = 0 → _) ↔ (x = 0 → _); rw [Classical.not_not])).trans And.comm).trans us_ite))
theorem us_iflt {x : Int32} {off : Int} {t : Nat} (hd : decode cc pc = .ok (.ifCond .lt off, 3)) (ht : (pc : Int) + off = (t : Int)) : gc_W (gc_S d) cc k b R pc L (.int x :: st) μ ↔ if x < 0 then gc_W (gc_S d) cc k b R t L st μ else gc_W (gc_S d) cc k b R (pc + 3) L st μ := (gc_step (gc_SC d) hd).trans ((us_tk ht).trans (by rw [us_tg ht]; exact us_ite (P := x < 0)))
theorem us_ifge {x : Int32} {off : Int} {t : Nat} (hd : decode cc pc = .ok (.ifCond .ge off, 3)) (ht : (pc : Int) + off = (t : Int)) : gc_W (gc_S d) cc k b R pc L (.int x :: st) μ ↔ if 0 ≤ x then gc_W (gc_S d) cc k b R t L st μ else gc_W (gc_S d) cc k b R (pc + 3) L st μ := (gc_step (gc_SC d) hd).trans ((us_tk ht).trans (by rw [us_tg ht]; exact us_ite (P := 0 ≤ x)))
theorem us_ifgt {x : Int32} {off : Int} {t : Nat} (hd : decode cc pc = .ok (.ifCond .gt off, 3)) (ht : (pc : Int) + off = (t : Int)) : gc_W (gc_S d) cc k b R pc L (.int x :: st) μ ↔ if 0 < x then gc_W (gc_S d) cc k b R t L st μ else gc_W (gc_S d) cc k b R (pc + 3) L st μ := (gc_step (gc_SC d) hd).trans ((us_tk ht).trans (by rw [us_tg ht]; exact us_ite (P := 0 < x)))
theorem us_ifle {x : Int32} {off : Int} {t : Nat} (hd : decode cc pc = .ok (.ifCond .le off, 3)) (ht : (pc : Int) + off = (t : Int)) : gc_W (gc_S d) cc k b R pc L (.int x :: st) μ ↔ if x ≤ 0 then gc_W (gc_S d) cc k b R t L st μ else gc_W (gc_S d) cc k b R (pc + 3) L st μ := (gc_step (gc_SC d) hd).trans ((us_tk ht).trans (by rw [us_tg ht]; exact us_ite (P := x ≤ 0)))
theorem us_iceq {x y : Int32} {off : Int} {t : Nat} (hd : decode cc pc = .ok (.if_icmp .eq off, 3)) (ht : (pc : Int) + off = (t : Int)) : gc_W (gc_S d) cc k b R pc L (.int y :: .int x :: st) μ ↔ if x = y then gc_W (gc_S d) cc k b R t L st μ else gc_W (gc_S d) cc k b R (pc + 3) L st μ := (gc_step (gc_SC d) hd).trans ((us_tk ht).trans (by rw [us_tg ht]; exact us_ite (P := x = y)))
theorem us_icne {x y : Int32} {off : Int} {t : Nat} (hd : decode cc pc = .ok (.if_icmp .ne off, 3)) (ht : (pc : Int) + off = (t : Int)) : gc_W (gc_S d) cc k b R pc L (.int y :: .int x :: st) μ ↔ if x = y then gc_W (gc_S d) cc k b R (pc + 3) L st μ else gc_W (gc_S d) cc k b R t L st μ := (gc_step (gc_SC d) hd).trans ((us_tk ht).trans (by rw [us_tg ht]; exact ((and_congr Iff.rfl (by show (¬ ¬ x = y → _) ↔ (x = y → _); rw [Classical.not_not])).trans And.comm).trans us_ite))
theorem us_iclt {x y : Int32} {off : Int} {t : Nat} (hd : decode cc pc = .ok (.if_icmp .lt off, 3)) (ht : (pc : Int) + off = (t : Int)) : gc_W (gc_S d) cc k b R pc L (.int y :: .int x :: st) μ ↔ if x < y then gc_W (gc_S d) cc k b R t L st μ else gc_W (gc_S d) cc k b R (pc + 3) L st μ := (gc_step (gc_SC d) hd).trans ((us_tk ht).trans (by rw [us_tg ht]; exact us_ite (P := x < y)))
theorem us_icge {x y : Int32} {off : Int} {t : Nat} (hd : decode cc pc = .ok (.if_icmp .ge off, 3)) (ht : (pc : Int) + off = (t : Int)) : gc_W (gc_S d) cc k b R pc L (.int y :: .int x :: st) μ ↔ if y ≤ x then gc_W (gc_S d) cc k b R t L st μ else gc_W (gc_S d) cc k b R (pc + 3) L st μ := (gc_step (gc_SC d) hd).trans ((us_tk ht).trans (by rw [us_tg ht]; exact us_ite (P := y ≤ x)))
theorem us_icgt {x y : Int32} {off : Int} {t : Nat} (hd : decode cc pc = .ok (.if_icmp .gt off, 3)) (ht : (pc : Int) + off = (t : Int)) : gc_W (gc_S d) cc k b R pc L (.int y :: .int x :: st) μ ↔ if y < x then gc_W (gc_S d) cc k b R t L st μ else gc_W (gc_S d) cc k b R (pc + 3) L st μ := (gc_step (gc_SC d) hd).trans ((us_tk ht).trans (by rw [us_tg ht]; exact us_ite (P := y < x)))
theorem us_icle {x y : Int32} {off : Int} {t : Nat} (hd : decode cc pc = .ok (.if_icmp .le off, 3)) (ht : (pc : Int) + off = (t : Int)) : gc_W (gc_S d) cc k b R pc L (.int y :: .int x :: st) μ ↔ if x ≤ y then gc_W (gc_S d) cc k b R t L st μ else gc_W (gc_S d) cc k b R (pc + 3) L st μ := (gc_step (gc_SC d) hd).trans ((us_tk ht).trans (by rw [us_tg ht]; exact us_ite (P := x ≤ y)))
theorem us_goto {off : Int} {t : Nat} (hd : decode cc pc = .ok (.goto off, 3)) (ht : (pc : Int) + off = (t : Int)) : gc_W (gc_S d) cc k b R pc L st μ ↔ gc_W (gc_S d) cc k b R t L st μ := (gc_step (gc_SC d) hd).trans ((us_tk ht).trans (by rw [us_tg ht]))
def gc_sw (K : Nat → Prop) (dt : Nat) : List (Int32 × Nat) → Int32 → Prop
  | [], _ => K dt
  | (v, t) :: r, x => if x = v then K t else gc_sw K dt r x
def gc_lok2 (pc : Nat) : List (Int × Int) → List (Int32 × Nat) → Bool
  | [], [] => true
  | (a, off) :: r, (w, t) :: r' => decide (w.toInt = a) && decide ((pc : Int) + off = (t : Int)) && gc_lok2 pc r r'
  | _, _ => false
theorem us_lkx {K : Nat → Prop} {pc dt : Nat} {dd : Int} (hdt : (pc : Int) + dd = (dt : Int)) {x : Int32} : ∀ (ps : List (Int × Int)) (qs : List (Int32 × Nat)), gc_lok2 pc ps qs = true → (gc_lk K pc dd ps x ↔ gc_sw K dt qs x)
  | [], [], _ => by show gc_tk pc dd _ ↔ _; rw [us_tk hdt, us_tg hdt]; exact Iff.rfl
  | (a, off) :: r, (w, t) :: r', h => by
    unfold gc_lok2 at h
    simp only [Bool.and_eq_true, decide_eq_true_eq] at h
    show ((x.toInt = a → gc_tk pc off _) ∧ (¬ x.toInt = a → gc_lk K pc dd r x)) ↔ if x = w then K t else gc_sw K dt r' x
    have e : x.toInt = a ↔ x = w := by rw [← h.1.1]; exact Int32.toInt_inj
    rw [us_tk h.1.2, us_tg h.1.2, e, us_lkx hdt r r' h.2]
    exact us_ite
  | [], _ :: _, h => by cases h
  | _ :: _, [], h => by cases h
def gc_tok2 (pc : Nat) : Int → List Int → List (Int32 × Nat) → Bool
  | _, [], [] => true
  | v, off :: r, (w, t) :: r' => decide (w.toInt = v) && decide ((pc : Int) + off = (t : Int)) && gc_tok2 pc (v + 1) r r'
  | _, _, _ => false
theorem us_tsx {K : Nat → Prop} {pc dt : Nat} {x : Int32} : ∀ (v : Int) (ps : List Int) (qs : List (Int32 × Nat)), gc_tok2 pc v ps qs = true → (((x.toInt < v ∨ v + ps.length ≤ x.toInt → K dt) ∧ gc_ts K pc ps v x) ↔ gc_sw K dt qs x)
  | v, [], [], _ => by
    show ((x.toInt < v ∨ v + ((0 : Nat) : Int) ≤ x.toInt → K dt) ∧ True) ↔ K dt
    have : x.toInt < v ∨ v + ((0 : Nat) : Int) ≤ x.toInt := by omega
    exact ⟨fun h => h.1 this, fun h => ⟨fun _ => h, trivial⟩⟩
  | v, off :: r, (w, t) :: r', h => by
    unfold gc_tok2 at h
    simp only [Bool.and_eq_true, decide_eq_true_eq] at h
    show ((x.toInt < v ∨ v + ((r.length + 1 : Nat) : Int) ≤ x.toInt → K dt) ∧ (x.toInt = v → gc_tk pc off _) ∧ gc_ts K pc r (v + 1) x) ↔ if x = w then K t else gc_sw K dt r' x
    have e : x.toInt = v ↔ x = w := by rw [← h.1.1]; exact Int32.toInt_inj
    have ih := us_tsx (K := K) (dt := dt) (x := x) (v + 1) r r' h.2
    rw [us_tk h.1.2, us_tg h.1.2]
    have hts : x.toInt = v → gc_ts K pc r (v + 1) x := fun hx => by
      have : ∀ (r : List Int) (u : Int), x.toInt < u → gc_ts K pc r u x := by
        intro r
        induction r with
        | nil => exact fun _ _ => trivial
        | cons a r ih => exact fun u hu => ⟨fun hz => absurd hz (by omega), ih (u + 1) (by omega)⟩
      exact this r (v + 1) (by omega)
    by_cases hx : x = w
    · rw [if_pos hx]
      have hv := e.mpr hx
      exact ⟨fun h => h.2.1 hv, fun h => ⟨fun hz => absurd hz (by push_cast; omega), fun _ => h, hts hv⟩⟩
    · rw [if_neg hx, ← ih]
      have hv : ¬ x.toInt = v := fun z => hx (e.mp z)
      constructor
      · exact fun h => ⟨fun hz => h.1 (by push_cast; omega), h.2.2⟩
      · exact fun h => ⟨fun hz => h.1 (by push_cast at hz; omega), fun z => absurd z hv, h.2⟩
  | _, [], _ :: _, h => by cases h
  | _, _ :: _, [], h => by cases h
theorem us_lsw {dd : Int} {ps : Array (Int × Int)} {len dt : Nat} {x : Int32} (qs : List (Int32 × Nat)) (hd : decode cc pc = .ok (.lookupswitch dd ps, len)) (h1 : (ps.toList.zip (ps.toList.drop 1)).all (fun (a, next) => a.1 < next.1) = true) (h2 : gc_lok2 pc ps.toList qs = true) (hdt : (pc : Int) + dd = (dt : Int)) : gc_W (gc_S d) cc k b R pc L (.int x :: st) μ ↔ gc_sw (fun q => gc_W (gc_S d) cc k b R q L st μ) dt qs x :=
  (gc_step (gc_SC d) hd).trans ((show gc_B ((ps.toList.zip (ps.toList.drop 1)).all (fun (a, next) => a.1 < next.1)) (gc_lk (fun q => gc_W (gc_S d) cc k b R q L st μ) pc dd ps.toList x) ↔ gc_lk (fun q => gc_W (gc_S d) cc k b R q L st μ) pc dd ps.toList x by rw [h1]; exact Iff.rfl).trans (us_lkx hdt _ _ h2))
theorem us_tsw {dd lo hi : Int} {offs : Array Int} {len dt : Nat} {x : Int32} (qs : List (Int32 × Nat)) (hd : decode cc pc = .ok (.tableswitch dd lo hi offs, len)) (h1 : Nat.beq offs.size (hi - lo + 1).toNat = true) (h0 : lo ≤ hi) (h2 : gc_tok2 pc lo offs.toList qs = true) (hdt : (pc : Int) + dd = (dt : Int)) : gc_W (gc_S d) cc k b R pc L (.int x :: st) μ ↔ gc_sw (fun q => gc_W (gc_S d) cc k b R q L st μ) dt qs x := by
  refine (gc_step (gc_SC d) hd).trans ?_
  have hs := Nat.eq_of_beq_eq_true h1
  show gc_B (Nat.beq offs.size (hi - lo + 1).toNat) ((x.toInt < lo ∨ hi < x.toInt → gc_tk pc dd _) ∧ gc_ts (fun q => gc_W (gc_S d) cc k b R q L st μ) pc offs.toList lo x) ↔ _
  rw [h1, ← us_tsx lo offs.toList qs h2, us_tk hdt, us_tg hdt, Array.length_toList]
  have : (x.toInt < lo ∨ hi < x.toInt) ↔ (x.toInt < lo ∨ lo + (offs.size : Int) ≤ x.toInt) := by omega
  rw [this]
  exact Iff.rfl
theorem us_getf {n ci j o : Nat} (hd : decode cc pc = .ok (.getfield n, 3)) (hf : gc_f k n = some (ci, j)) (hk : gc_kd o = ci) : gc_W (gc_S d) cc k b R pc L (.ref o :: st) μ ↔ gc_W (gc_S d) cc k b R (pc + 3) L (gc_fv o j μ :: st) μ := by
  refine (gc_step (gc_SC d) hd).trans ?_
  show gc_oe (gc_f k n) _ _ ↔ _
  rw [hf]
  show gc_B (Nat.beq (gc_kd o) ci) _ ↔ _
  rw [hk, Nat.beq_refl]
  exact Iff.rfl
theorem us_gets {n j o : Nat} (hd : decode cc pc = .ok (.getfield n, 3)) (hf : gc_f k n = none) (hs : gc_sf k n = some j) (hk : gc_kd o = 32) : gc_W (gc_S d) cc k b R pc L (.ref o :: st) μ ↔ gc_W (gc_S d) cc k b R (pc + 3) L (gc_fv o j (fun _ _ => 0) :: st) μ := by
  refine (gc_step (gc_SC d) hd).trans ?_
  show gc_oe (gc_f k n) _ (gc_oe (gc_sf k n) _ _) ↔ _
  rw [hf, hs]
  show gc_B (Nat.beq (gc_kd o) 32) _ ↔ _
  rw [hk]
  exact Iff.rfl
theorem us_putf {n ci j o : Nat} {x : Int32} (hd : decode cc pc = .ok (.putfield n, 3)) (hf : gc_f k n = some (ci, j)) (hk : gc_kd o = ci) (hj : gc_fk o j = 0) (hz : (Nat.beq ci 12 && Nat.beq j 10) = false) : gc_W (gc_S d) cc k b R pc L (.int x :: .ref o :: st) μ ↔ gc_W (gc_S d) cc k b R (pc + 3) L st (gc_up μ o j x) := by
  refine (gc_step (gc_SC d) hd).trans ?_
  show gc_oe (gc_f k n) _ _ ↔ _
  rw [hf]
  show (gc_B (Nat.beq (gc_kd o) ci && Nat.beq (gc_fk o j) 0) ((ci = 12 ∧ j = 10 → x = 0 ∨ x = 1) ∧ _) ∨ False) ↔ _
  rw [hk, hj, Nat.beq_refl, or_false]
  show ((ci = 12 ∧ j = 10 → x = 0 ∨ x = 1) ∧ _) ↔ _
  refine ⟨fun h => h.2, fun h => ⟨fun ⟨h1, h2⟩ => ?_, h⟩⟩
  subst h1; subst h2; cases hz
theorem us_putb {n o : Nat} {x : Int32} (hd : decode cc pc = .ok (.putfield n, 3)) (hf : gc_f k n = some (12, 10)) (hk : gc_kd o = 12) (hj : gc_fk o 10 = 0) : gc_W (gc_S d) cc k b R pc L (.int x :: .ref o :: st) μ ↔ ((x = 0 ∨ x = 1) ∧ gc_W (gc_S d) cc k b R (pc + 3) L st (gc_up μ o 10 x)) := by
  refine (gc_step (gc_SC d) hd).trans ?_
  show gc_oe (gc_f k n) _ _ ↔ _
  rw [hf]
  show (gc_B (Nat.beq (gc_kd o) 12 && Nat.beq (gc_fk o 10) 0) ((12 = 12 ∧ 10 = 10 → x = 0 ∨ x = 1) ∧ _) ∨ False) ↔ _
  rw [hk, hj, or_false]
  show ((12 = 12 ∧ 10 = 10 → x = 0 ∨ x = 1) ∧ _) ↔ _
  exact and_congr ⟨fun h => h ⟨rfl, rfl⟩, fun h _ => h⟩ Iff.rfl
theorem us_putr {n ci j o q : Nat} (hd : decode cc pc = .ok (.putfield n, 3)) (hf : gc_f k n = some (ci, j)) (hk : gc_kd o = ci) (hj : gc_fk o j = 1) (hq : Nat.blt q 1000 = true) : gc_W (gc_S d) cc k b R pc L (.ref q :: .ref o :: st) μ ↔ gc_W (gc_S d) cc k b R (pc + 3) L st (gc_up μ o j (nI q)) := by
  refine (gc_step (gc_SC d) hd).trans ?_
  show gc_oe (gc_f k n) _ _ ↔ _
  rw [hf]
  show (False ∨ gc_B (Nat.beq (gc_kd o) ci && Nat.beq (gc_fk o j) 1 && Nat.blt q 1000) _) ↔ _
  rw [hk, hj, hq, Nat.beq_refl, false_or]
  exact Iff.rfl
theorem us_getst {n : Nat} {v : Value} (hd : decode cc pc = .ok (.getstatic n, 3)) (hk : gc_gs k n = some v) : gc_W (gc_S d) cc k b R pc L st μ ↔ gc_W (gc_S d) cc k b R (pc + 3) L (v :: st) μ := by
  refine (gc_step (gc_SC d) hd).trans ?_
  show gc_oe (gc_gs k n) _ _ ↔ _
  rw [hk]
  exact Iff.rfl
theorem us_iald {o : Nat} {i : Int32} (hd : decode cc pc = .ok (.iaload, 1)) (hk : gc_kd o = 20) : gc_W (gc_S d) cc k b R pc L (.int i :: .ref o :: st) μ ↔ (vp_in i (gc_al o) ∧ gc_W (gc_S d) cc k b R (pc + 1) L (.int (μ o i.toNatClampNeg) :: st) μ) := by
  refine (gc_step (gc_SC d) hd).trans ?_
  show (gc_B (Nat.beq (gc_kd o) 20) _ ∨ gc_B (Nat.beq (gc_kd o) 30) _ ∨ gc_B (Nat.beq (gc_kd o) 31) _) ↔ _
  rw [hk]
  show (_ ∨ False ∨ False) ↔ _
  rw [or_false, or_false]
  exact Iff.rfl
theorem us_iald0 {o : Nat} {i : Int32} (hd : decode cc pc = .ok (.iaload, 1)) (hk : gc_kd o = 30) : gc_W (gc_S d) cc k b R pc L (.int i :: .ref o :: st) μ ↔ (vp_in i (gc_al o) ∧ gc_W (gc_S d) cc k b R (pc + 1) L (.int (gc_ro o i.toNatClampNeg) :: st) μ) := by
  refine (gc_step (gc_SC d) hd).trans ?_
  show (gc_B (Nat.beq (gc_kd o) 20) _ ∨ gc_B (Nat.beq (gc_kd o) 30) _ ∨ gc_B (Nat.beq (gc_kd o) 31) _) ↔ _
  rw [hk]
  show (False ∨ _ ∨ False) ↔ _
  rw [or_false, false_or]
  exact Iff.rfl
theorem us_iald1 {o : Nat} {i : Int32} (hd : decode cc pc = .ok (.iaload, 1)) (hk : gc_kd o = 31) : gc_W (gc_S d) cc k b R pc L (.int i :: .ref o :: st) μ ↔ (vp_in i (μ 110 0).toNatClampNeg ∧ gc_W (gc_S d) cc k b R (pc + 1) L (.int (μ 109 i.toNatClampNeg) :: st) μ) := by
  refine (gc_step (gc_SC d) hd).trans ?_
  show (gc_B (Nat.beq (gc_kd o) 20) _ ∨ gc_B (Nat.beq (gc_kd o) 30) _ ∨ gc_B (Nat.beq (gc_kd o) 31) _) ↔ _
  rw [hk]
  show (False ∨ False ∨ _) ↔ _
  rw [false_or, false_or]
  exact Iff.rfl
theorem us_zald {o : Nat} {i : Int32} (hd : decode cc pc = .ok (.baload, 1)) (hk : gc_kd o = 21) : gc_W (gc_S d) cc k b R pc L (.int i :: .ref o :: st) μ ↔ (vp_in i (gc_al o) ∧ gc_W (gc_S d) cc k b R (pc + 1) L (.int (μ o i.toNatClampNeg) :: st) μ) := by
  refine (gc_step (gc_SC d) hd).trans ?_
  show (gc_B (Nat.beq (gc_kd o) 21) _ ∨ gc_B (Nat.beq (gc_kd o) 33) _) ↔ _
  rw [hk]
  show (_ ∨ False) ↔ _
  rw [or_false]
  exact Iff.rfl
theorem us_bald {o : Nat} {i : Int32} (hd : decode cc pc = .ok (.baload, 1)) (hk : gc_kd o = 33) : gc_W (gc_S d) cc k b R pc L (.int i :: .ref o :: st) μ ↔ (vp_in i (gc_al o) ∧ gc_W (gc_S d) cc k b R (pc + 1) L (.int (gc_ro o i.toNatClampNeg) :: st) μ) := by
  refine (gc_step (gc_SC d) hd).trans ?_
  show (gc_B (Nat.beq (gc_kd o) 21) _ ∨ gc_B (Nat.beq (gc_kd o) 33) _) ↔ _
  rw [hk]
  show (False ∨ _) ↔ _
  rw [false_or]
  exact Iff.rfl
theorem us_aald {o q : Nat} {i : Int32} (hd : decode cc pc = .ok (.aaload, 1)) (hk : gc_kd o = q) (hq : (Nat.ble 22 q && Nat.ble q 24) = true) : gc_W (gc_S d) cc k b R pc L (.int i :: .ref o :: st) μ ↔ (vp_in i (gc_al o) ∧ gc_W (gc_S d) cc k b R (pc + 1) L (.ref (gc_ra o i.toNatClampNeg) :: st) μ) := by
  refine (gc_step (gc_SC d) hd).trans ?_
  show gc_B (Nat.ble 22 (gc_kd o) && Nat.ble (gc_kd o) 24) _ ↔ _
  rw [hk, hq]
  exact Iff.rfl
theorem us_iast {o : Nat} {i x : Int32} (hd : decode cc pc = .ok (.iastore, 1)) (hk : gc_kd o = 20) : gc_W (gc_S d) cc k b R pc L (.int x :: .int i :: .ref o :: st) μ ↔ (vp_in i (gc_al o) ∧ gc_W (gc_S d) cc k b R (pc + 1) L st (gc_up μ o i.toNatClampNeg x)) := by
  refine (gc_step (gc_SC d) hd).trans ?_
  show gc_B (Nat.beq (gc_kd o) 20) _ ↔ _
  rw [hk]
  exact Iff.rfl
theorem us_zast {o : Nat} {i x : Int32} (hd : decode cc pc = .ok (.bastore, 1)) (hk : gc_kd o = 21) : gc_W (gc_S d) cc k b R pc L (.int x :: .int i :: .ref o :: st) μ ↔ (vp_in i (gc_al o) ∧ (x = 0 ∨ x = 1) ∧ gc_W (gc_S d) cc k b R (pc + 1) L st (gc_up μ o i.toNatClampNeg x)) := by
  refine (gc_step (gc_SC d) hd).trans ?_
  show gc_B (Nat.beq (gc_kd o) 21) _ ↔ _
  rw [hk]
  exact Iff.rfl
theorem us_alen {o : Nat} (hd : decode cc pc = .ok (.arraylength, 1)) (hk : gc_kd o = 20) : gc_W (gc_S d) cc k b R pc L (.ref o :: st) μ ↔ gc_W (gc_S d) cc k b R (pc + 1) L (.int (nI (gc_al o)) :: st) μ := by
  refine (gc_step (gc_SC d) hd).trans ?_
  show (gc_B (Nat.beq (gc_kd o) 20 || Nat.beq (gc_kd o) 33) _ ∨ gc_B (Nat.beq (gc_kd o) 31) _) ↔ _
  rw [hk]
  show (_ ∨ False) ↔ _
  rw [or_false]
  exact Iff.rfl
theorem us_alen3 {o : Nat} (hd : decode cc pc = .ok (.arraylength, 1)) (hk : gc_kd o = 33) : gc_W (gc_S d) cc k b R pc L (.ref o :: st) μ ↔ gc_W (gc_S d) cc k b R (pc + 1) L (.int (nI (gc_al o)) :: st) μ := by
  refine (gc_step (gc_SC d) hd).trans ?_
  show (gc_B (Nat.beq (gc_kd o) 20 || Nat.beq (gc_kd o) 33) _ ∨ gc_B (Nat.beq (gc_kd o) 31) _) ↔ _
  rw [hk]
  show (_ ∨ False) ↔ _
  rw [or_false]
  exact Iff.rfl
theorem us_alen1 {o : Nat} (hd : decode cc pc = .ok (.arraylength, 1)) (hk : gc_kd o = 31) : gc_W (gc_S d) cc k b R pc L (.ref o :: st) μ ↔ gc_W (gc_S d) cc k b R (pc + 1) L (.int (μ 110 0) :: st) μ := by
  refine (gc_step (gc_SC d) hd).trans ?_
  show (gc_B (Nat.beq (gc_kd o) 20 || Nat.beq (gc_kd o) 33) _ ∨ gc_B (Nat.beq (gc_kd o) 31) _) ↔ _
  rw [hk]
  show (False ∨ _) ↔ _
  rw [false_or]
  exact Iff.rfl
theorem us_clx {M n : Nat} {a0 as r : List Value} (hn : Nat.ble n st.length = true) (ha : a0 ++ (st.take n).reverse = as) (h4 : gc_rl r = true) : gc_cl (gc_S d) M n a0 (gc_W (gc_S d) cc k b R) pc L st r μ ↔ gc_S d M as μ (fun v μ' => gc_W (gc_S d) cc k b R (pc + 3) L (v.toList ++ r) μ') := by
  unfold gc_cl gc_r4
  rw [h4, hn, ha]
  exact Iff.rfl
theorem us_virt {n na M kind kd rc o : Nat} {as r : List Value} (hd : decode cc pc = .ok (.invokevirtual n, 3)) (hna : gc_n k n = na) (hc : gc_c k n rc = some (kind, M)) (hk : gc_kd o = kd) (hr : (if Nat.beq kd 32 then 15 else kd) = rc) (hs : st.drop na = .ref o :: r) (hn : Nat.ble na st.length = true) (ha : [.ref o] ++ (st.take na).reverse = as) (h4 : gc_rl r = true) : gc_W (gc_S d) cc k b R pc L st μ ↔ gc_S d M as μ (fun v μ' => gc_W (gc_S d) cc k b R (pc + 3) L (v.toList ++ r) μ') := by
  refine (gc_step (gc_SC d) hd).trans ?_
  show gc_rc st (gc_n k n) _ ↔ _
  unfold gc_rc
  rw [hna, hs]
  show gc_oe (gc_c k n (if Nat.beq (gc_kd o) 32 then 15 else gc_kd o)) _ _ ↔ _
  rw [hk, hr, hc]
  exact us_clx hn ha h4
theorem us_spec {n na M kind kd o : Nat} {as r : List Value} (hd : decode cc pc = .ok (.invokespecial n, 3)) (hna : gc_n k n = na) (hc : gc_c k n 98 = some (kind, M)) (hk : gc_kd o = kd) (hkd : Nat.blt kd 13 = true) (hs : st.drop na = .ref o :: r) (hn : Nat.ble na st.length = true) (ha : [.ref o] ++ (st.take na).reverse = as) (h4 : gc_rl r = true) : gc_W (gc_S d) cc k b R pc L st μ ↔ gc_S d M as μ (fun v μ' => gc_W (gc_S d) cc k b R (pc + 3) L (v.toList ++ r) μ') := by
  refine (gc_step (gc_SC d) hd).trans ?_
  show gc_oe (gc_c k n 98) _ _ ↔ _
  rw [hc]
  show gc_rc st (gc_n k n) _ ↔ _
  unfold gc_rc
  rw [hna, hs]
  show gc_B (Nat.blt (gc_kd o) 13) _ ↔ _
  rw [hk, hkd]
  exact us_clx hn ha h4
theorem us_stat {n na M kind : Nat} {as r : List Value} (hd : decode cc pc = .ok (.invokestatic n, 3)) (h0 : gc_s k n = 0) (h1 : gc_ne k n = none) (hna : gc_n k n = na) (hc : gc_c k n 97 = some (kind, M)) (hs : st.drop na = r) (hn : Nat.ble na st.length = true) (ha : [] ++ (st.take na).reverse = as) (h4 : gc_rl r = true) : gc_W (gc_S d) cc k b R pc L st μ ↔ gc_S d M as μ (fun v μ' => gc_W (gc_S d) cc k b R (pc + 3) L (v.toList ++ r) μ') := by
  refine (gc_step (gc_SC d) hd).trans ?_
  show (gc_B (Nat.beq (gc_s k n) 1) _ ∨ gc_B (Nat.beq (gc_s k n) 2) _ ∨ gc_B (Nat.beq (gc_s k n) 3) _ ∨ gc_B (Nat.beq (gc_s k n) 0) (gc_oe (gc_ne k n) _ (gc_oe (gc_c k n 97) _ _))) ↔ _
  rw [h0, h1, hc]
  show (False ∨ False ∨ False ∨ gc_cl (gc_S d) M (gc_n k n) [] _ pc L st (st.drop (gc_n k n)) μ) ↔ _
  rw [false_or, false_or, false_or, hna, hs]
  exact us_clx hn ha h4
theorem us_nest {n M : Nat} {as r : List Value} (hd : decode cc pc = .ok (.invokestatic n, 3)) (h0 : gc_s k n = 0) (h1 : gc_ne k n = some M) (hs : st.drop 1 = r) (hn : Nat.ble 1 st.length = true) (ha : [] ++ (st.take 1).reverse = as) (h4 : gc_rl r = true) : gc_W (gc_S d) cc k b R pc L st μ ↔ gc_S d M as μ (fun v μ' => gc_W (gc_S d) cc k b R (pc + 3) L (v.toList ++ r) μ') := by
  refine (gc_step (gc_SC d) hd).trans ?_
  show (gc_B (Nat.beq (gc_s k n) 1) _ ∨ gc_B (Nat.beq (gc_s k n) 2) _ ∨ gc_B (Nat.beq (gc_s k n) 3) _ ∨ gc_B (Nat.beq (gc_s k n) 0) (gc_oe (gc_ne k n) _ _)) ↔ _
  rw [h0, h1]
  show (False ∨ False ∨ False ∨ gc_cl (gc_S d) M 1 [] _ pc L st (st.drop 1) μ) ↔ _
  rw [false_or, false_or, false_or, hs]
  exact us_clx hn ha h4
theorem us_max {n : Nat} {x y : Int32} (hd : decode cc pc = .ok (.invokestatic n, 3)) (h0 : gc_s k n = 2) (h4 : gc_rl st = true) : gc_W (gc_S d) cc k b R pc L (.int y :: .int x :: st) μ ↔ gc_W (gc_S d) cc k b R (pc + 3) L (.int (if x < y then y else x) :: st) μ := by
  refine (gc_step (gc_SC d) hd).trans ?_
  show (gc_B (Nat.beq (gc_s k n) 1) _ ∨ gc_B (Nat.beq (gc_s k n) 2) (gc_r4 st _) ∨ gc_B (Nat.beq (gc_s k n) 3) _ ∨ gc_B (Nat.beq (gc_s k n) 0) _) ↔ _
  unfold gc_r4
  rw [h0, h4]
  show (False ∨ _ ∨ False ∨ False) ↔ _
  rw [false_or, or_false, or_false]
  exact Iff.rfl
theorem us_min {n : Nat} {x y : Int32} (hd : decode cc pc = .ok (.invokestatic n, 3)) (h0 : gc_s k n = 3) (h4 : gc_rl st = true) : gc_W (gc_S d) cc k b R pc L (.int y :: .int x :: st) μ ↔ gc_W (gc_S d) cc k b R (pc + 3) L (.int (if y < x then y else x) :: st) μ := by
  refine (gc_step (gc_SC d) hd).trans ?_
  show (gc_B (Nat.beq (gc_s k n) 1) _ ∨ gc_B (Nat.beq (gc_s k n) 2) _ ∨ gc_B (Nat.beq (gc_s k n) 3) (gc_r4 st _) ∨ gc_B (Nat.beq (gc_s k n) 0) _) ↔ _
  unfold gc_r4
  rw [h0, h4]
  show (False ∨ False ∨ _ ∨ False) ↔ _
  rw [false_or, false_or, or_false]
  exact Iff.rfl
theorem us_copy {n o1 o2 : Nat} {sp dp z : Int32} (hd : decode cc pc = .ok (.invokestatic n, 3)) (h0 : gc_s k n = 1) (h4 : gc_rl st = true) (hk1 : gc_kd o1 = 20) (hk2 : gc_kd o2 = 20) : gc_W (gc_S d) cc k b R pc L (.int z :: .int dp :: .ref o2 :: .int sp :: .ref o1 :: st) μ ↔ ((¬ sp < 0 ∧ ¬ dp < 0 ∧ ¬ z < 0 ∧ sp.toNatClampNeg + z.toNatClampNeg ≤ gc_al o1 ∧ dp.toNatClampNeg + z.toNatClampNeg ≤ gc_al o2) ∧ gc_W (gc_S d) cc k b R (pc + 3) L st (gc_cp μ o1 o2 sp.toNatClampNeg dp.toNatClampNeg z.toNatClampNeg)) := by
  refine (gc_step (gc_SC d) hd).trans ?_
  show (gc_B (Nat.beq (gc_s k n) 1) (gc_r4 st (gc_B (Nat.beq (gc_kd o1) 20 && Nat.beq (gc_kd o2) 20) _)) ∨ gc_B (Nat.beq (gc_s k n) 2) _ ∨ gc_B (Nat.beq (gc_s k n) 3) _ ∨ gc_B (Nat.beq (gc_s k n) 0) _) ↔ _
  unfold gc_r4
  rw [h0, h4, hk1, hk2]
  show (_ ∨ False ∨ False ∨ False) ↔ _
  rw [or_false, or_false, or_false]
  exact Iff.rfl
theorem us_iret {v : Int32} (hd : decode cc pc = .ok (.ireturn, 1)) (hb : b = 0) : gc_W (gc_S d) cc k b R pc L [.int v] μ ↔ R (some (.int v)) μ := by
  refine (gc_step (gc_SC d) hd).trans ?_
  show ([] = [] ∧ (b = 0 ∨ b = 1 ∧ (v = 0 ∨ v = 1)) ∧ R (some (.int v)) μ) ↔ _
  exact ⟨fun h => h.2.2, fun h => ⟨rfl, Or.inl hb, h⟩⟩
theorem us_zret {v : Int32} (hd : decode cc pc = .ok (.ireturn, 1)) (hb : b = 1) : gc_W (gc_S d) cc k b R pc L [.int v] μ ↔ ((v = 0 ∨ v = 1) ∧ R (some (.int v)) μ) := by
  refine (gc_step (gc_SC d) hd).trans ?_
  show ([] = [] ∧ (b = 0 ∨ b = 1 ∧ (v = 0 ∨ v = 1)) ∧ R (some (.int v)) μ) ↔ _
  subst hb
  exact ⟨fun h => ⟨h.2.1.elim (fun z => by cases z) (fun z => z.2), h.2.2⟩, fun h => ⟨rfl, Or.inr ⟨rfl, h.1⟩, h.2⟩⟩
theorem us_aret {v : Nat} (hd : decode cc pc = .ok (.areturn, 1)) (hb : b = 3) : gc_W (gc_S d) cc k b R pc L [.ref v] μ ↔ R (some (.ref v)) μ := by
  refine (gc_step (gc_SC d) hd).trans ?_
  show ([] = [] ∧ b = 3 ∧ R (some (.ref v)) μ) ↔ _
  exact ⟨fun h => h.2.2, fun h => ⟨rfl, hb, h⟩⟩
theorem us_vret (hd : decode cc pc = .ok (.return_, 1)) (hb : b = 2) : gc_W (gc_S d) cc k b R pc L [] μ ↔ R none μ := by
  refine (gc_step (gc_SC d) hd).trans ?_
  show ([] = [] ∧ b = 2 ∧ R none μ) ↔ _
  exact ⟨fun h => h.2.2, fun h => ⟨rfl, hb, h⟩⟩
theorem us_call {M nL kk bb : Nat} {y : MethodName} {c2 : ByteArray} {rt : Option FieldType} {as L' : List Value} (hm : gc_m M = (y, c2, nL, rt, kk, bb)) (hl : Nat.ble (gc_en as).length nL = true) (hL : gc_pad nL (gc_en as) = L') : gc_S (d + 1) M as μ R ↔ gc_W (gc_S d) c2 kk bb R 0 L' [] μ := by
  show gc_B (Nat.ble (gc_en as).length (gc_m M).2.2.1) (gc_W (gc_S d) (gc_m M).2.1 (gc_m M).2.2.2.2.1 (gc_m M).2.2.2.2.2 R 0 (gc_pad (gc_m M).2.2.1 (gc_en as)) [] μ) ↔ _
  rw [hm]
  show gc_B (Nat.ble (gc_en as).length nL) (gc_W (gc_S d) c2 kk bb R 0 (gc_pad nL (gc_en as)) [] μ) ↔ _
  rw [hl, hL]
  exact Iff.rfl
end US
