theorem gc_sw1 : .fieldLink (gc_os 15) 9 "java/lang/String" "value" "[B" ∈ gc_WL := gc_wl (i := 7066) (by decide +kernel) rfl
theorem gc_sw2 : .fieldLink (gc_os 15) 15 "java/lang/String" "coder" "B" ∈ gc_WL := gc_wl (i := 7065) (by decide +kernel) rfl
theorem gc_sw3 : .fieldLink (gc_os 11) 310 RX11 "KIND_ABOVE" "[I" ∈ gc_WL := gc_wl (i := 2209) (by decide +kernel) rfl
theorem gc_sw4 : .fieldLink (gc_os 15) 38 "java/lang/String" "COMPACT_STRINGS" "Z" ∈ gc_WL := gc_wl (i := 3041) (by decide +kernel) rfl
theorem gc_sw5 : Cond.native arraycopyName ∈ gc_WL := gc_wl (i := 3117) (by decide +kernel) rfl
theorem gc_sw6 : Cond.static arraycopyName ∈ gc_WL := gc_wl (i := 3116) (by decide +kernel) rfl
theorem gc_sw7 : Cond.initialized "java/lang/System" ∈ gc_WL := gc_wl (i := 1021) (by decide +kernel) rfl
theorem gc_sw8 : Cond.static Lib.Math.max.name ∈ gc_WL := gc_wl (i := 2110) (by decide +kernel) rfl
theorem gc_sw9 : Cond.initialized "java/lang/Math" ∈ gc_WL := gc_wl (i := 1015) (by decide +kernel) rfl
theorem gc_sw10 : Cond.code Lib.Math.max.name Lib.Math.max.code 2 (some .int) ∈ gc_WL := gc_wl (i := 2111) (by decide +kernel) rfl
theorem gc_sw11 : Cond.static Lib.Math.min.name ∈ gc_WL := gc_wl (i := 2146) (by decide +kernel) rfl
theorem gc_sw12 : Cond.code Lib.Math.min.name Lib.Math.min.code 2 (some .int) ∈ gc_WL := gc_wl (i := 2147) (by decide +kernel) rfl
theorem gc_k30 {o : Nat} (h : gc_kd o = 30) : o = 108 := by
  by_cases h2 : o < 110
  · exact (by decide +kernel : ∀ o, o < 110 → gc_kd o = 30 → o = 108) o h2 h
  · rw [gc_k99 h2] at h; cases h
theorem gc_k31 {o : Nat} (h : gc_kd o = 31) : o = 109 := by
  by_cases h2 : o < 110
  · exact (by decide +kernel : ∀ o, o < 110 → gc_kd o = 31 → o = 109) o h2 h
  · rw [gc_k99 h2] at h; cases h
theorem gc_k33 {o : Nat} (h : gc_kd o = 33) : ∃ i, i < 3 ∧ o = 105 + i := by
  by_cases h2 : o < 110
  · have : o = 105 ∨ o = 106 ∨ o = 107 := (by decide +kernel : ∀ o, o < 110 → gc_kd o = 33 → o = 105 ∨ o = 106 ∨ o = 107) o h2 h
    rcases this with rfl | rfl | rfl
    · exact ⟨0, by decide, rfl⟩
    · exact ⟨1, by decide, rfl⟩
    · exact ⟨2, by decide, rfl⟩
  · rw [gc_k99 h2] at h; cases h
theorem gc_v20 {ci : Nat} {q : vw_C} (h : vwCl[ci]? = some q) : ci < 20 := by
  have := (List.getElem?_eq_some_iff.mp h).1
  have e : vwCl.length = 13 := rfl
  omega
theorem gc_lke {K : Nat → Prop} {pc : Nat} {d : Int} : ∀ {ps : List (Int × Int)} {x : Int32}, gc_lk K pc d ps x → ∃ tgt : Nat, (pc : Int) + Op.lookupswitch.offset ps d x.toInt = (tgt : Int) ∧ K tgt
  | [], x, h => by
    obtain ⟨h1, h2⟩ := gc_Be h
    have := of_decide_eq_true h1
    exact ⟨gc_tg pc d, by show (pc : Int) + d = _; unfold gc_tg; omega, h2⟩
  | (a, off) :: r, x, h => by
    rw [Op.lookupswitch.offset_cons]
    by_cases e : a = x.toInt
    · rw [if_pos e]
      obtain ⟨h1, h2⟩ := gc_Be (h.1 e.symm)
      have := of_decide_eq_true h1
      exact ⟨gc_tg pc off, by unfold gc_tg; omega, h2⟩
    · rw [if_neg e]
      exact gc_lke (h.2 (fun z => e z.symm))
theorem gc_tse {K : Nat → Prop} {pc : Nat} : ∀ (ps : List Int) (v : Int) (x : Int32), gc_ts K pc ps v x → v ≤ x.toInt → x.toInt - v < ps.length → ∃ (off : Int) (tgt : Nat), ps[(x.toInt - v).toNat]? = some off ∧ (pc : Int) + off = (tgt : Int) ∧ K tgt
  | [], v, x, _, h1, h2 => by simp at h2; omega
  | off :: r, v, x, h, h1, h2 => by
    by_cases e : x.toInt = v
    · obtain ⟨h3, h4⟩ := gc_Be (h.1 e)
      have := of_decide_eq_true h3
      exact ⟨off, gc_tg pc off, by rw [e, Int.sub_self]; rfl, by unfold gc_tg; omega, h4⟩
    · obtain ⟨o2, tgt, h3, h4⟩ := gc_tse r (v + 1) x h.2 (by omega) (by simp at h2; omega)
      refine ⟨o2, tgt, ?_, h4⟩
      rw [show (x.toInt - v).toNat = (x.toInt - (v + 1)).toNat + 1 by omega]
      exact h3
theorem gc_cp_ne {μ : gM} {o1 o2 a b n o' : Nat} (h : o' ≠ o2) : gc_cp μ o1 o2 a b n o' = μ o' := if_neg h
theorem gc_cp_eq {μ : gM} {o1 o2 a b n : Nat} : gc_cp μ o1 o2 a b n o2 = va_cpy (μ o1) (μ o2) a b n := if_pos rfl
theorem gc_gm_up {xs : Nat → Int32} {Lx o j : Nat} {x : Int32} {μ : gM} (h : o < 102) (hg : gc_gm xs Lx μ) : gc_gm xs Lx (gc_up μ o j x) := by
  unfold gc_gm
  rw [gc_up_ne (by omega), gc_up_ne (by omega)]
  exact hg
theorem gc_gm_cp {xs : Nat → Int32} {Lx o1 o2 a b n : Nat} {μ : gM} (h : o2 < 102) (hg : gc_gm xs Lx μ) : gc_gm xs Lx (gc_cp μ o1 o2 a b n) := by
  unfold gc_gm
  rw [gc_cp_ne (by omega), gc_cp_ne (by omega)]
  exact hg
theorem gc_fv_up {o j i : Nat} {x : Int32} {μ : gM} (h : i ≠ j) : gc_fv o i (gc_up μ o j x) = gc_fv o i μ := by
  unfold gc_fv
  rw [gc_up_eq]
  simp only [upd, if_neg h]
theorem gc_fs_set {ad : Nat → Nat} {o j n : Nat} {x : Int32} {μ : gM} {v : Value} (hf : gc_fk o j = 0) (hv : v = .int x) : (List.range n).map (fun i => gc_tr ad (gc_fv o i (gc_up μ o j x))) = ((List.range n).map (fun i => gc_tr ad (gc_fv o i μ))).set j v := by
  apply List.ext_getElem?
  intro i
  rw [List.getElem?_set, List.getElem?_map, List.getElem?_map]
  by_cases hi : j = i
  · subst hi
    rw [if_pos rfl]
    by_cases hn : j < n
    · rw [List.getElem?_range hn, if_pos (by simpa using hn)]
      show some _ = some _
      congr 1
      show gc_tr ad (gc_fv o j (gc_up μ o j x)) = v
      unfold gc_fv
      rw [hf, hv, gc_up_eq]
      simp [upd, gc_tr]
    · rw [List.getElem?_eq_none (by simp; omega), if_neg (by simp; omega)]
      rfl
  · rw [if_neg hi]
    by_cases hn : i < n
    · rw [List.getElem?_range hn]
      show some (gc_tr ad (gc_fv o i _)) = some (gc_tr ad (gc_fv o i _))
      rw [gc_fv_up (fun z => hi z.symm)]
    · rw [List.getElem?_eq_none (by simp; omega)]
      rfl
theorem gc_fs_setr {ad : Nat → Nat} {o j n x : Nat} {μ : gM} (hf : gc_fk o j = 1) (hx : x < 2 ^ 31) : (List.range n).map (fun i => gc_tr ad (gc_fv o i (gc_up μ o j (nI x)))) = ((List.range n).map (fun i => gc_tr ad (gc_fv o i μ))).set j (.ref (ad x)) := by
  apply List.ext_getElem?
  intro i
  rw [List.getElem?_set, List.getElem?_map, List.getElem?_map]
  by_cases hi : j = i
  · subst hi
    rw [if_pos rfl]
    by_cases hn : j < n
    · rw [List.getElem?_range hn, if_pos (by simpa using hn)]
      show some _ = some _
      congr 1
      show gc_tr ad (gc_fv o j (gc_up μ o j (nI x))) = .ref (ad x)
      unfold gc_fv
      rw [hf, gc_up_eq]
      simp [upd, gc_tr, nI_clamp hx]
    · rw [List.getElem?_eq_none (by simp; omega), if_neg (by simp; omega)]
      rfl
  · rw [if_neg hi]
    by_cases hn : i < n
    · rw [List.getElem?_range hn]
      show some (gc_tr ad (gc_fv o i _)) = some (gc_tr ad (gc_fv o i _))
      rw [gc_fv_up (fun z => hi z.symm)]
    · rw [List.getElem?_eq_none (by simp; omega)]
      rfl
section SN3
variable {p : Program} {l : Launch} {e : Env} {R : Room} {s : State} {m : MethodId} {args : Array Value} {below : List Frame} {meth : Method} {c : Code} {cells slots : Nat} {Q : State → Prop}
variable {cs : Nat → ClassId} {D : va_G} {ad : Nat → Nat} {b0 Lx : Nat} {xs : Nat → Int32} {nL k b : Nat} {cc : ByteArray} {Ts : List Cond}
set_option maxHeartbeats 8000000 in
set_option maxRecDepth 20000 in
theorem gc_one {d : Nat} {C : gC} (hC : gc_Met l cs D ad b0 xs Lx d C) (hx : p.tables.exec = Jvm.exec) (hb : c.code = cc) (hml : c.maxLocals = nL) (hown : s.vm.findClass (gc_os k) = some m.cls) (hts : ∀ w ∈ Ts, w.before args s = true) (hTs : ∀ w ∈ gc_WL, w ∈ Ts) (hK : va_K D vwCl (gc_ty cs) s) (hPF : gc_PF ad b0 xs Lx s s.heap) (hsz : b0 ≤ s.heap.size) (had : gc_ad ad b0) (hcl : cells ≤ R.cells ∧ slots ≤ R.slots) (hR : d + 1 ≤ R.frames ∧ 40 * d + 40 ≤ R.locals) {Rr : gR}
    (hI : ∀ (pc : Nat) (ls : Array Slot) (v : Int32) (μ : gM) (H : Heap) (locs : List Loc), decode cc pc = .ok (.ireturn, 1) → (b = 0 ∨ b = 1 ∧ (v = 0 ∨ v = 1)) → Rr (some (.int v)) μ → va_P D vwCl (gc_w cs ad μ) H → va_S (gc_A b0) s.heap H locs → gc_gm xs Lx μ → W p l e R s m args below meth c H locs cells slots Q (F0 m pc ls [.int v]))
    (hA : ∀ (pc : Nat) (ls : Array Slot) (v : Nat) (μ : gM) (H : Heap) (locs : List Loc), decode cc pc = .ok (.areturn, 1) → b = 3 → Rr (some (.ref v)) μ → va_P D vwCl (gc_w cs ad μ) H → va_S (gc_A b0) s.heap H locs → gc_gm xs Lx μ → W p l e R s m args below meth c H locs cells slots Q (F0 m pc ls [.ref (ad v)]))
    (hV : ∀ (pc : Nat) (ls : Array Slot) (μ : gM) (H : Heap) (locs : List Loc), decode cc pc = .ok (.return_, 1) → b = 2 → Rr none μ → va_P D vwCl (gc_w cs ad μ) H → va_S (gc_A b0) s.heap H locs → gc_gm xs Lx μ → W p l e R s m args below meth c H locs cells slots Q (F0 m pc ls []))
    (pc : Nat) (L st : List Value) (μ : gM) (h : gc_d C cc k b (gc_P p l e R s m args below meth c cells slots Q cs D ad b0 xs Lx nL) Rr pc L st μ) : gc_P p l e R s m args below meth c cells slots Q cs D ad b0 xs Lx nL pc L st μ := by
  intro H locs ls hP hS hL hg
  unfold gc_d at h
  cases hdg : decode cc pc with
  | error z => rw [hdg] at h; exact h.elim
  | ok q =>
  obtain ⟨i, len⟩ := q
  rw [hdg] at h
  replace h : gc_i C k b (gc_P p l e R s m args below meth c cells slots Q cs D ad b0 xs Lx nL) Rr pc len L st μ i := h
  cases i
  case iconst n =>
    obtain ⟨h0, h⟩ := gc_Be h
    cases Nat.eq_of_beq_eq_true h0
    exact lv_iconst hx hb hdg rfl (h H locs ls hP hS hL hg)
  case bipush n =>
    obtain ⟨h0, h⟩ := gc_Be h
    cases Nat.eq_of_beq_eq_true h0
    exact lv_bipush hx hb hdg rfl (h H locs ls hP hS hL hg)
  case sipush n =>
    obtain ⟨h0, h⟩ := gc_Be h
    cases Nat.eq_of_beq_eq_true h0
    exact lv_sipush hx hb hdg rfl (h H locs ls hP hS hL hg)
  case lconst n =>
    obtain ⟨h0, h⟩ := gc_Be h
    cases Nat.eq_of_beq_eq_true h0
    exact lv_lconst hx hb hdg rfl (h H locs ls hP hS hL hg)
  case iload_n n =>
    obtain ⟨h0, h⟩ := gc_Be h
    cases Nat.eq_of_beq_eq_true h0
    obtain ⟨x, hi, h⟩ := gc_gie h
    exact lv_iload_n hx hb hdg rfl (hL.at hi rfl) (h H locs ls hP hS hL hg)
  case iload n =>
    obtain ⟨h0, h⟩ := gc_Be h
    cases Nat.eq_of_beq_eq_true h0
    obtain ⟨x, hi, h⟩ := gc_gie h
    exact lv_iload hx hb hdg (hL.at hi rfl) (h H locs ls hP hS hL hg)
  case lload_n n =>
    obtain ⟨h0, h⟩ := gc_Be h
    cases Nat.eq_of_beq_eq_true h0
    obtain ⟨x, hi, h⟩ := gc_gle h
    exact lv_lload_n hx hb hdg rfl (hL.at hi rfl) (h H locs ls hP hS hL hg)
  case lload n =>
    obtain ⟨h0, h⟩ := gc_Be h
    cases Nat.eq_of_beq_eq_true h0
    obtain ⟨x, hi, h⟩ := gc_gle h
    exact lv_lload hx hb hdg (hL.at hi rfl) (h H locs ls hP hS hL hg)
  case aload_n n =>
    obtain ⟨h0, h⟩ := gc_Be h
    cases Nat.eq_of_beq_eq_true h0
    obtain ⟨x, hi, h⟩ := gc_gre h
    exact lv_aload_n hx hb hdg rfl (hL.at hi rfl) (h H locs ls hP hS hL hg)
  case aload n =>
    obtain ⟨h0, h⟩ := gc_Be h
    cases Nat.eq_of_beq_eq_true h0
    obtain ⟨x, hi, h⟩ := gc_gre h
    exact lv_aload hx hb hdg (hL.at hi rfl) (h H locs ls hP hS hL hg)
  case istore_n n =>
    obtain ⟨h0, h⟩ := gc_Be h
    cases Nat.eq_of_beq_eq_true h0
    obtain ⟨w, hi, hw, h⟩ := gc_soe h
    obtain ⟨x, r, rfl, h⟩ := gc_1ie h
    obtain ⟨hl1, hl2, lv, hl3, hl4⟩ := id hL
    exact lv_istore_n hx hb hdg rfl hl3 (hL.lt hi) rfl (fun ls' hl' => h H locs ls' hP hS (gc_LR.set (ls := ls) ⟨hl1, hl2⟩ hl4 hi hw rfl hl') hg)
  case istore n =>
    obtain ⟨h0, h⟩ := gc_Be h
    cases Nat.eq_of_beq_eq_true h0
    obtain ⟨w, hi, hw, h⟩ := gc_soe h
    obtain ⟨x, r, rfl, h⟩ := gc_1ie h
    obtain ⟨hl1, hl2, lv, hl3, hl4⟩ := id hL
    exact lv_istore hx hb hdg hl3 (hL.lt hi) rfl (fun ls' hl' => h H locs ls' hP hS (gc_LR.set (ls := ls) ⟨hl1, hl2⟩ hl4 hi hw rfl hl') hg)
  case astore_n n =>
    obtain ⟨h0, h⟩ := gc_Be h
    cases Nat.eq_of_beq_eq_true h0
    obtain ⟨w, hi, hw, h⟩ := gc_soe h
    obtain ⟨x, r, rfl, h⟩ := gc_1re h
    obtain ⟨hl1, hl2, lv, hl3, hl4⟩ := id hL
    exact lv_astore_n hx hb hdg rfl hl3 (hL.lt hi) rfl (fun ls' hl' => h H locs ls' hP hS (gc_LR.set (ls := ls) ⟨hl1, hl2⟩ hl4 hi hw rfl hl') hg)
  case astore n =>
    obtain ⟨h0, h⟩ := gc_Be h
    cases Nat.eq_of_beq_eq_true h0
    obtain ⟨w, hi, hw, h⟩ := gc_soe h
    obtain ⟨x, r, rfl, h⟩ := gc_1re h
    obtain ⟨hl1, hl2, lv, hl3, hl4⟩ := id hL
    exact lv_astore hx hb hdg hl3 (hL.lt hi) rfl (fun ls' hl' => h H locs ls' hP hS (gc_LR.set (ls := ls) ⟨hl1, hl2⟩ hl4 hi hw rfl hl') hg)
  case iinc n z =>
    obtain ⟨h0, h⟩ := gc_Be h
    cases Nat.eq_of_beq_eq_true h0
    obtain ⟨x, hi, h⟩ := gc_gie h
    obtain ⟨hl1, hl2, lv, hl3, hl4⟩ := id hL
    obtain ⟨q, hq⟩ := List.getElem?_of_mem (hl4 n _ hi rfl)
    exact lv_iinc hx hb hdg hl3 hq rfl (hL.lt hi) rfl (fun ls' hl' => h H locs ls' hP hS (gc_LR.set (ls := ls) ⟨hl1, hl2⟩ hl4 hi rfl rfl hl') hg)
  case iadd =>
    obtain ⟨h0, h⟩ := gc_Be h
    cases Nat.eq_of_beq_eq_true h0
    obtain ⟨x, y, r, rfl, h⟩ := gc_2ie h
    exact lv_iadd hx hb hdg (h H locs ls hP hS hL hg)
  case isub =>
    obtain ⟨h0, h⟩ := gc_Be h
    cases Nat.eq_of_beq_eq_true h0
    obtain ⟨x, y, r, rfl, h⟩ := gc_2ie h
    exact lv_isub hx hb hdg (h H locs ls hP hS hL hg)
  case imul =>
    obtain ⟨h0, h⟩ := gc_Be h
    cases Nat.eq_of_beq_eq_true h0
    obtain ⟨x, y, r, rfl, h⟩ := gc_2ie h
    exact lv_imul hx hb hdg (h H locs ls hP hS hL hg)
  case iand =>
    obtain ⟨h0, h⟩ := gc_Be h
    cases Nat.eq_of_beq_eq_true h0
    obtain ⟨x, y, r, rfl, h⟩ := gc_2ie h
    exact lv_iand hx hb hdg (h H locs ls hP hS hL hg)
  case ior =>
    obtain ⟨h0, h⟩ := gc_Be h
    cases Nat.eq_of_beq_eq_true h0
    obtain ⟨x, y, r, rfl, h⟩ := gc_2ie h
    exact lv_ior hx hb hdg (h H locs ls hP hS hL hg)
  case ixor =>
    obtain ⟨h0, h⟩ := gc_Be h
    cases Nat.eq_of_beq_eq_true h0
    obtain ⟨x, y, r, rfl, h⟩ := gc_2ie h
    exact lv_ixor hx hb hdg (h H locs ls hP hS hL hg)
  case ishl =>
    obtain ⟨h0, h⟩ := gc_Be h
    cases Nat.eq_of_beq_eq_true h0
    obtain ⟨x, y, r, rfl, h⟩ := gc_2ie h
    exact lv_ishl hx hb hdg (h H locs ls hP hS hL hg)
  case ishr =>
    obtain ⟨h0, h⟩ := gc_Be h
    cases Nat.eq_of_beq_eq_true h0
    obtain ⟨x, y, r, rfl, h⟩ := gc_2ie h
    exact lv_ishr hx hb hdg (h H locs ls hP hS hL hg)
  case iushr =>
    obtain ⟨h0, h⟩ := gc_Be h
    cases Nat.eq_of_beq_eq_true h0
    obtain ⟨x, y, r, rfl, h⟩ := gc_2ie h
    exact lv_iushr hx hb hdg rfl (h H locs ls hP hS hL hg)
  case idiv =>
    obtain ⟨h0, h⟩ := gc_Be h
    cases Nat.eq_of_beq_eq_true h0
    obtain ⟨x, y, r, rfl, hy, h⟩ := gc_2ie h
    exact lv_idiv hx hb hdg hy (h H locs ls hP hS hL hg)
  case irem =>
    obtain ⟨h0, h⟩ := gc_Be h
    cases Nat.eq_of_beq_eq_true h0
    obtain ⟨x, y, r, rfl, hy, h⟩ := gc_2ie h
    exact lv_irem hx hb hdg hy (h H locs ls hP hS hL hg)
  case ineg =>
    obtain ⟨h0, h⟩ := gc_Be h
    cases Nat.eq_of_beq_eq_true h0
    obtain ⟨x, r, rfl, h⟩ := gc_1ie h
    exact lv_ineg hx hb hdg (h H locs ls hP hS hL hg)
  case i2l =>
    obtain ⟨h0, h⟩ := gc_Be h
    cases Nat.eq_of_beq_eq_true h0
    obtain ⟨x, r, rfl, h⟩ := gc_1ie h
    exact lv_i2l hx hb hdg rfl (h H locs ls hP hS hL hg)
  case i2b =>
    obtain ⟨h0, h⟩ := gc_Be h
    cases Nat.eq_of_beq_eq_true h0
    obtain ⟨x, r, rfl, h⟩ := gc_1ie h
    exact lv_i2b hx hb hdg rfl (h H locs ls hP hS hL hg)
  case i2s =>
    obtain ⟨h0, h⟩ := gc_Be h
    cases Nat.eq_of_beq_eq_true h0
    obtain ⟨x, r, rfl, h⟩ := gc_1ie h
    exact lv_i2s hx hb hdg rfl (h H locs ls hP hS hL hg)
  case i2c =>
    obtain ⟨h0, h⟩ := gc_Be h
    cases Nat.eq_of_beq_eq_true h0
    obtain ⟨x, r, rfl, h⟩ := gc_1ie h
    exact lv_i2c hx hb hdg rfl (h H locs ls hP hS hL hg)
  case l2i =>
    obtain ⟨h0, h⟩ := gc_Be h
    cases Nat.eq_of_beq_eq_true h0
    obtain ⟨x, r, rfl, h⟩ := gc_1le h
    exact lv_l2i hx hb hdg rfl (h H locs ls hP hS hL hg)
  case land =>
    obtain ⟨h0, h⟩ := gc_Be h
    cases Nat.eq_of_beq_eq_true h0
    obtain ⟨x, y, r, rfl, h⟩ := gc_2le h
    exact lv_land hx hb hdg (h H locs ls hP hS hL hg)
  case lor =>
    obtain ⟨h0, h⟩ := gc_Be h
    cases Nat.eq_of_beq_eq_true h0
    obtain ⟨x, y, r, rfl, h⟩ := gc_2le h
    exact lv_lor hx hb hdg (h H locs ls hP hS hL hg)
  case lcmp =>
    obtain ⟨h0, h⟩ := gc_Be h
    cases Nat.eq_of_beq_eq_true h0
    obtain ⟨x, y, r, rfl, h⟩ := gc_2le h
    exact W.lcmp hx hb hdg (h H locs ls hP hS hL hg)
  case lushr =>
    obtain ⟨h0, h⟩ := gc_Be h
    cases Nat.eq_of_beq_eq_true h0
    obtain ⟨x, y, r, rfl, h⟩ := gc_lie h
    exact lv_lushr hx hb hdg rfl (h H locs ls hP hS hL hg)
  case lshr =>
    obtain ⟨h0, h⟩ := gc_Be h
    cases Nat.eq_of_beq_eq_true h0
    obtain ⟨x, y, r, rfl, h⟩ := gc_lie h
    exact lv_lshr hx hb hdg rfl (h H locs ls hP hS hL hg)
  case lshl =>
    obtain ⟨h0, h⟩ := gc_Be h
    cases Nat.eq_of_beq_eq_true h0
    obtain ⟨x, y, r, rfl, h⟩ := gc_lie h
    exact lv_lshl hx hb hdg rfl (h H locs ls hP hS hL hg)
  case dup =>
    obtain ⟨h0, h⟩ := gc_Be h
    cases Nat.eq_of_beq_eq_true h0
    rcases h with h | h
    · obtain ⟨x, r, rfl, h⟩ := gc_1ie h
      exact lv_dup hx hb hdg rfl (h H locs ls hP hS hL hg)
    · obtain ⟨x, r, rfl, h⟩ := gc_1re h
      exact lv_dup hx hb hdg rfl (h H locs ls hP hS hL hg)
  case dup2 =>
    obtain ⟨h0, h⟩ := gc_Be h
    cases Nat.eq_of_beq_eq_true h0
    obtain ⟨x, y, r, rfl, h⟩ := gc_ire h
    exact lv_dup2_11 hx hb hdg rfl rfl (h H locs ls hP hS hL hg)
  case ldc n =>
    obtain ⟨h0, h⟩ := gc_Be h
    cases Nat.eq_of_beq_eq_true h0
    rcases gc_oee h with ⟨v, hv, h⟩ | ⟨-, h⟩
    · exact lv_ldc hx hb hown (hts _ (hTs _ (gc_k_ok hv))) hdg (h H locs ls hP hS hL hg)
    · rcases gc_oee h with ⟨v, hv, h⟩ | ⟨-, h⟩
      · obtain ⟨hk2, hv2⟩ : k = 2 ∧ ((n = 27 ∧ v = 102) ∨ (n = 33 ∧ v = 103) ∨ (n = 35 ∧ v = 104)) := by
          unfold gc_sr at hv
          repeat' split at hv
          all_goals first | (cases hv; done) | (rename_i hh; cases hv; exact ⟨hh.1, by simp [hh.2]⟩)
        clear hv
        subst hk2
        rcases hv2 with ⟨rfl, rfl⟩ | ⟨rfl, rfl⟩ | ⟨rfl, rfl⟩
        · exact va_ldcS hx hb hown hPF.2.2.2.2.2.2.1 hdg (h H locs ls hP hS hL hg)
        · exact va_ldcS hx hb hown hPF.2.2.2.2.2.2.2.1 hdg (h H locs ls hP hS hL hg)
        · exact va_ldcS hx hb hown hPF.2.2.2.2.2.2.2.2.1 hdg (h H locs ls hP hS hL hg)
      · exact h.elim
  case ldc_w n =>
    obtain ⟨h0, h⟩ := gc_Be h
    cases Nat.eq_of_beq_eq_true h0
    rcases gc_oee h with ⟨v, hv, h⟩ | ⟨-, h⟩
    · exact lv_ldcw hx hb hown (hts _ (hTs _ (gc_k_ok hv))) hdg (h H locs ls hP hS hL hg)
    · exact h.elim
  case ldc2_w n =>
    obtain ⟨h0, h⟩ := gc_Be h
    cases Nat.eq_of_beq_eq_true h0
    rcases gc_oee h with ⟨v, hv, h⟩ | ⟨-, h⟩
    · exact lv_ldc2 hx hb hown (hts _ (hTs _ (gc_l_ok hv))) hdg (h H locs ls hP hS hL hg)
    · exact h.elim
  case ifCond c2 off =>
    obtain ⟨h0, h⟩ := gc_Be h
    cases Nat.eq_of_beq_eq_true h0
    obtain ⟨ht, h⟩ := gc_Be h
    have ht : (pc : Int) + off = ((gc_tg pc off : Nat) : Int) := by
      have := of_decide_eq_true ht
      unfold gc_tg; omega
    obtain ⟨x, r, rfl, h⟩ := gc_1ie h
    cases c2
    · exact lv_if_eq hx hb hdg ht (fun z => h.1 z H locs ls hP hS hL hg) (fun z => h.2 z H locs ls hP hS hL hg)
    · exact lv_if_ne hx hb hdg ht (fun z => h.1 z H locs ls hP hS hL hg) (fun z => h.2 (fun w => w z) H locs ls hP hS hL hg)
    · exact lv_if_lt hx hb hdg ht (fun z => h.1 z H locs ls hP hS hL hg) (fun z => h.2 z H locs ls hP hS hL hg)
    · exact lv_if_ge hx hb hdg ht (fun z => h.1 z H locs ls hP hS hL hg) (fun z => h.2 z H locs ls hP hS hL hg)
    · exact lv_if_gt hx hb hdg ht (fun z => h.1 z H locs ls hP hS hL hg) (fun z => h.2 z H locs ls hP hS hL hg)
    · exact lv_if_le hx hb hdg ht (fun z => h.1 z H locs ls hP hS hL hg) (fun z => h.2 z H locs ls hP hS hL hg)
  case if_icmp c2 off =>
    obtain ⟨h0, h⟩ := gc_Be h
    cases Nat.eq_of_beq_eq_true h0
    obtain ⟨ht, h⟩ := gc_Be h
    have ht : (pc : Int) + off = ((gc_tg pc off : Nat) : Int) := by
      have := of_decide_eq_true ht
      unfold gc_tg; omega
    obtain ⟨x, y, r, rfl, h⟩ := gc_2ie h
    cases c2
    · exact lv_icmp_eq hx hb hdg ht (fun z => h.1 z H locs ls hP hS hL hg) (fun z => h.2 z H locs ls hP hS hL hg)
    · exact lv_icmp_ne hx hb hdg ht (fun z => h.1 z H locs ls hP hS hL hg) (fun z => h.2 (fun w => w z) H locs ls hP hS hL hg)
    · exact lv_icmp_lt hx hb hdg ht (fun z => h.1 z H locs ls hP hS hL hg) (fun z => h.2 z H locs ls hP hS hL hg)
    · exact lv_icmp_ge hx hb hdg ht (fun z => h.1 z H locs ls hP hS hL hg) (fun z => h.2 z H locs ls hP hS hL hg)
    · exact lv_icmp_gt hx hb hdg ht (fun z => h.1 z H locs ls hP hS hL hg) (fun z => h.2 z H locs ls hP hS hL hg)
    · exact lv_icmp_le hx hb hdg ht (fun z => h.1 z H locs ls hP hS hL hg) (fun z => h.2 z H locs ls hP hS hL hg)
  case goto off =>
    obtain ⟨h0, h⟩ := gc_Be h
    cases Nat.eq_of_beq_eq_true h0
    obtain ⟨ht, h⟩ := gc_Be h
    have ht : (pc : Int) + off = ((gc_tg pc off : Nat) : Int) := by
      have := of_decide_eq_true ht
      unfold gc_tg; omega
    exact lv_goto hx hb hdg ht (h H locs ls hP hS hL hg)
  case lookupswitch d2 ps =>
    obtain ⟨x, r, rfl, h⟩ := gc_1ie h
    obtain ⟨hs, h⟩ := gc_Be h
    obtain ⟨tgt, ht, h⟩ := gc_lke h
    exact lv_lookup hx hb hdg hs rfl ht (h H locs ls hP hS hL hg)
  case tableswitch d2 lo hi offs =>
    obtain ⟨x, r, rfl, h⟩ := gc_1ie h
    obtain ⟨hs, h⟩ := gc_Be h
    have hs := Nat.eq_of_beq_eq_true hs
    by_cases hout : x.toInt < lo ∨ hi < x.toInt
    · obtain ⟨ht, h⟩ := gc_Be (h.1 hout)
      have ht := of_decide_eq_true ht
      exact lv_tableOut hx hb hdg hout (tgt := gc_tg pc d2) (by unfold gc_tg; omega) (h H locs ls hP hS hL hg)
    · obtain ⟨off, tgt, ho, ht, h⟩ := gc_tse (K := fun q => gc_P p l e R s m args below meth c cells slots Q cs D ad b0 xs Lx nL q L r μ) (pc := pc) offs.toList lo x h.2 (by omega) (by rw [Array.length_toList]; omega)
      rw [Array.getElem?_toList] at ho
      exact lv_tableIn hx hb hdg (by omega) (by omega) ho ht (h H locs ls hP hS hL hg)
  case getfield n =>
    obtain ⟨h0, h⟩ := gc_Be h
    cases Nat.eq_of_beq_eq_true h0
    obtain ⟨o, r, rfl, h⟩ := gc_1re h
    rcases gc_oee h with ⟨⟨ci, j⟩, hf, h⟩ | ⟨-, h⟩
    · obtain ⟨hk, h⟩ := gc_Be h
      have hk : gc_kd o = ci := Nat.eq_of_beq_eq_true hk
      subst hk
      obtain ⟨C', T', N', hv, hj, hw⟩ := gc_f_ok hf
      obtain ⟨hu, ⟨ty, hty⟩, hnm⟩ := gc_cls hv
      have hlt : gc_kd o < 20 := gc_v20 hv
      have ho : o < 102 := gc_k25 (by omega)
      have h13 := (gc_k13 o ho hlt).2
      rw [hv] at h13
      have hlen : N' = (gc_o o).2.length := Option.some.inj h13
      have e := gc_w_at (cs := cs) (ad := ad) (μ := μ) ho
      unfold gc_ent at e
      rw [if_pos hlt] at e
      refine va_get (D := D) hx hb hts (fun w hw => hTs w (hu w hw)) hown hK hP o e hv j hj (hts _ (hTs _ hw)) (fun _ z => z) (v := gc_tr ad (gc_fv o j μ)) ?_ hdg (h H locs ls hP hS hL hg)
      rw [List.getElem?_map, List.getElem?_range (by omega)]
      rfl
    · rcases gc_oee h with ⟨j, hf, h⟩ | ⟨-, h⟩
      · obtain ⟨hk, h⟩ := gc_Be h
        obtain ⟨i, hi, rfl⟩ := gc_k32 (Nat.eq_of_beq_eq_true hk)
        obtain ⟨hk2, hf2⟩ : k = 15 ∧ ((n = 9 ∧ j = 0) ∨ (n = 15 ∧ j = 1)) := by
          unfold gc_sf at hf
          repeat' split at hf
          all_goals first | (cases hf; done) | (rename_i hh; cases hf; exact ⟨hh.1, by simp [hh.2]⟩)
        clear hf
        subst hk2
        have hE := (hPF.2.2.2.2.2.1.1 i hi)
        rcases hf2 with ⟨rfl, rfl⟩ | ⟨rfl, rfl⟩
        · refine vk_getf hx hb (own := gc_os 15) (ref := "java/lang/String") hE.2.2.1 hS hown (hts _ (hTs _ gc_sw1)) (fun _ z => z) hdg ?_
          have e : gc_tr ad (gc_fv (102 + i) 0 fun _ _ => 0) = .ref (ad (105 + i)) := by
            rcases (show i = 0 ∨ i = 1 ∨ i = 2 by omega) with rfl | rfl | rfl <;> rfl
          rw [← e]
          exact (h H locs ls hP hS hL hg)
        · refine vk_getf hx hb (own := gc_os 15) (ref := "java/lang/String") hE.2.1 hS hown (hts _ (hTs _ gc_sw2)) (fun _ z => z) hdg ?_
          have e : gc_tr ad (gc_fv (102 + i) 1 fun _ _ => 0) = .int 0 := by
            rcases (show i = 0 ∨ i = 1 ∨ i = 2 by omega) with rfl | rfl | rfl <;> rfl
          rw [← e]
          exact (h H locs ls hP hS hL hg)
      · exact h.elim
  case putfield n =>
    obtain ⟨h0, h⟩ := gc_Be h
    cases Nat.eq_of_beq_eq_true h0
    rcases gc_oee h with ⟨⟨ci, j⟩, hf, h⟩ | ⟨-, h⟩
    · rcases h with h | h
      · obtain ⟨o, x, r, rfl, h⟩ := gc_rie h
        obtain ⟨hk, hz, h⟩ := gc_Be h
        rw [Bool.and_eq_true] at hk
        have hfk : gc_fk o j = 0 := Nat.eq_of_beq_eq_true hk.2
        have hk : gc_kd o = ci := Nat.eq_of_beq_eq_true hk.1
        subst hk
        obtain ⟨C', T', N', hv, hj, hw⟩ := gc_f_ok hf
        obtain ⟨hu, ⟨ty, hty⟩, hnm⟩ := gc_cls hv
        have hlt : gc_kd o < 20 := gc_v20 hv
        have ho : o < 102 := gc_k25 (by omega)
        have h13 := (gc_k13 o ho hlt).2
        rw [hv] at h13
        have hlen : N' = (gc_o o).2.length := Option.some.inj h13
        have hdk := gc_dks o ho hlt j (by omega)
        rw [hfk] at hdk
        unfold gc_dk at hdk
        rw [hv] at hdk
        dsimp only at hdk
        simp only [Bool.and_eq_true, Bool.or_eq_true, Bool.not_eq_true'] at hdk
        have e := gc_w_at (cs := cs) (ad := ad) (μ := μ) ho
        unfold gc_ent at e
        rw [if_pos hlt] at e
        obtain ⟨hfin, hty2⟩ := hdk
        obtain ⟨ty2, hd2, hn2, hf2⟩ : ∃ ty2, parseFieldDescriptor (T' j).2.2.1 = some ty2 ∧ narrow ty2 (.int x) = .int x ∧ fits ty2 (.int x) = true := by
          rcases hty2 with q | ⟨⟨q1, q2⟩, q3⟩
          · exact ⟨.int, of_decide_eq_true q, rfl, rfl⟩
          · refine ⟨.boolean, of_decide_eq_true q3, ?_⟩
            rcases hz ⟨Nat.eq_of_beq_eq_true q1, Nat.eq_of_beq_eq_true q2⟩ with rfl | rfl
            · exact ⟨rfl, rfl⟩
            · exact ⟨rfl, rfl⟩
        refine va_put (D := D) hx hb hts (fun w hw => hTs w (hu w hw)) ty hty hnm hown hK hP (gc_wD had μ) hS o e hv j hj (hts _ (hTs _ hw)) (fun _ z => z) hfin hd2 hn2 hf2 (by rw [List.length_map, List.length_range]; omega) hdg (fun H1 locs1 hP1 _ hS1 => ?_)
        rw [gc_w_set (μ' := gc_up μ o j x) ho (by unfold gc_ent; rw [if_pos hlt, gc_fs_set hfk rfl]; rfl) (fun o' h' => gc_up_ne h')] at hP1
        exact h H1 locs1 ls hP1 hS1 hL (gc_gm_up (by omega) hg)
      · obtain ⟨o, x, r, rfl, h⟩ := gc_rre h
        obtain ⟨hk, h⟩ := gc_Be h
        rw [Bool.and_eq_true, Bool.and_eq_true] at hk
        have hx31 : x < 1000 := gc_blt hk.2
        have hfk : gc_fk o j = 1 := Nat.eq_of_beq_eq_true hk.1.2
        have hk : gc_kd o = ci := Nat.eq_of_beq_eq_true hk.1.1
        subst hk
        obtain ⟨C', T', N', hv, hj, hw⟩ := gc_f_ok hf
        obtain ⟨hu, ⟨ty, hty⟩, hnm⟩ := gc_cls hv
        have hlt : gc_kd o < 20 := gc_v20 hv
        have ho : o < 102 := gc_k25 (by omega)
        have h13 := (gc_k13 o ho hlt).2
        rw [hv] at h13
        have hlen : N' = (gc_o o).2.length := Option.some.inj h13
        have hdk := gc_dks o ho hlt j (by omega)
        rw [hfk] at hdk
        unfold gc_dk at hdk
        rw [hv] at hdk
        dsimp only at hdk
        simp only [Bool.and_eq_true, Bool.or_eq_true, Bool.not_eq_true'] at hdk
        have e := gc_w_at (cs := cs) (ad := ad) (μ := μ) ho
        unfold gc_ent at e
        rw [if_pos hlt] at e
        obtain ⟨hfin, hty2⟩ := hdk
        obtain ⟨z, hz⟩ : ∃ z, parseFieldDescriptor (T' j).2.2.1 = some (.object z) := by
          split at hty2
          · exact ⟨_, by assumption⟩
          · cases hty2
        refine va_put (D := D) hx hb hts (fun w hw => hTs w (hu w hw)) ty hty hnm hown hK hP (gc_wD had μ) hS o e hv j hj (hts _ (hTs _ hw)) (fun _ z => z) hfin hz rfl rfl (by rw [List.length_map, List.length_range]; omega) hdg (fun H1 locs1 hP1 _ hS1 => ?_)
        rw [gc_w_set (μ' := gc_up μ o j (nI x)) ho (by unfold gc_ent; rw [if_pos hlt, gc_fs_setr hfk (Nat.lt_of_lt_of_le hx31 (by decide))]; rfl) (fun o' h' => gc_up_ne h')] at hP1
        exact h H1 locs1 ls hP1 hS1 hL (gc_gm_up (by omega) hg)
    · exact h.elim
  case getstatic n =>
    obtain ⟨h0, h⟩ := gc_Be h
    cases Nat.eq_of_beq_eq_true h0
    rcases gc_oee h with ⟨v, hv, h⟩ | ⟨-, h⟩
    · obtain ⟨rfl, rfl, rfl⟩ | ⟨rfl, rfl, rfl⟩ : (k = 11 ∧ n = 310 ∧ v = .ref 108) ∨ (k = 15 ∧ n = 38 ∧ v = .int 1) := by
        unfold gc_gs at hv
        repeat' split at hv
        all_goals first | (cases hv; done) | (rename_i hh; cases hv; simp [hh.1, hh.2])
      · exact va_gets hx hb (own := gc_os 11) (ref := RX11) hPF.2.2.1 hS hown (hts _ (hTs _ gc_sw3)) (fun _ z => z) hdg (h H locs ls hP hS hL hg)
      · exact va_gets hx hb (own := gc_os 15) (ref := "java/lang/String") hPF.2.2.2.2.1 hS hown (hts _ (hTs _ gc_sw4)) (fun _ z => z) hdg (h H locs ls hP hS hL hg)
    · exact h.elim
  case iaload =>
    obtain ⟨h0, h⟩ := gc_Be h
    cases Nat.eq_of_beq_eq_true h0
    obtain ⟨o, i, r, rfl, h⟩ := gc_ire h
    rcases h with h | h | h
    · obtain ⟨hk, hin, h⟩ := gc_Be h
      have hk := Nat.eq_of_beq_eq_true hk
      have ho : o < 102 := gc_k25 (by omega)
      have e := gc_w_at (cs := cs) (ad := ad) (μ := μ) ho
      unfold gc_ent at e
      rw [hk] at e
      exact va_iald hx hb hK hP o 0 e rfl hin hdg (h H locs ls hP hS hL hg)
    · obtain ⟨hk, hin, h⟩ := gc_Be h
      have ho := gc_k30 (Nat.eq_of_beq_eq_true hk)
      subst ho
      exact va_ti hx hb hPF.2.2.2.1 hS hin rfl hdg (h H locs ls hP hS hL hg)
    · have ho := gc_k31 (Nat.eq_of_beq_eq_true (gc_Be h).1)
      subst ho
      obtain ⟨-, hin, h⟩ := gc_Be h
      rw [hg.2, nI_clamp hPF.2.2.2.2.2.2.2.2.2.2.2] at hin
      rw [hg.1] at h
      exact va_sld hx hb hPF.2.2.2.2.2.2.2.2.2.1 (Nat.lt_of_lt_of_le hPF.2.2.2.2.2.2.2.2.2.2.1 hsz) (Nat.not_le.mpr hPF.2.2.2.2.2.2.2.2.2.2.1) hS hin hdg (h H locs ls hP hS hL hg)
  case baload =>
    obtain ⟨h0, h⟩ := gc_Be h
    cases Nat.eq_of_beq_eq_true h0
    obtain ⟨o, i, r, rfl, h⟩ := gc_ire h
    rcases h with h | h
    · obtain ⟨hk, hin, h⟩ := gc_Be h
      have hk := Nat.eq_of_beq_eq_true hk
      have ho : o < 102 := gc_k25 (by omega)
      have e := gc_w_at (cs := cs) (ad := ad) (μ := μ) ho
      unfold gc_ent at e
      rw [hk] at e
      exact va_zald hx hb hK hP o 1 e rfl hin hdg (h H locs ls hP hS hL hg)
    · obtain ⟨hk, hin, h⟩ := gc_Be h
      obtain ⟨i2, hi2, rfl⟩ := gc_k33 (Nat.eq_of_beq_eq_true hk)
      have hE := (hPF.2.2.2.2.2.1.1 i2 hi2).2.2.2
      refine va_tb hx hb hE hS (by rcases (show i2 = 0 ∨ i2 = 1 ∨ i2 = 2 by omega) with rfl | rfl | rfl <;> exact hin) (v := .int (gc_ro (105 + i2) i.toNatClampNeg)) ?_ hdg (h H locs ls hP hS hL hg)
      rcases (show i2 = 0 ∨ i2 = 1 ∨ i2 = 2 by omega) with rfl | rfl | rfl <;> rfl
  case aaload =>
    obtain ⟨h0, h⟩ := gc_Be h
    cases Nat.eq_of_beq_eq_true h0
    obtain ⟨o, i, r, rfl, h⟩ := gc_ire h
    obtain ⟨hk, hin, h⟩ := gc_Be h
    rw [Bool.and_eq_true] at hk
    have hk1 := Nat.le_of_ble_eq_true hk.1
    have hk2 := Nat.le_of_ble_eq_true hk.2
    have ho : o < 102 := gc_k25 (by omega)
    have e := gc_w_at (cs := cs) (ad := ad) (μ := μ) ho
    unfold gc_ent at e
    rw [if_neg (by omega), if_neg (by omega)] at e
    rcases (show gc_kd o = 22 ∨ gc_kd o = 23 ∨ gc_kd o = 24 by omega) with z | z | z
    · rw [z] at e
      exact va_aldq hx hb hK hP o 2 e rfl hin hdg (h H locs ls hP hS hL hg)
    · rw [z] at e
      exact va_aldq hx hb hK hP o 3 e rfl hin hdg (h H locs ls hP hS hL hg)
    · rw [z] at e
      exact va_aldq hx hb hK hP o 4 e rfl hin hdg (h H locs ls hP hS hL hg)
  case iastore =>
    obtain ⟨h0, h⟩ := gc_Be h
    cases Nat.eq_of_beq_eq_true h0
    obtain ⟨o, i, x, r, rfl, h⟩ := gc_iire h
    · obtain ⟨hk, hin, h⟩ := gc_Be h
      have hk := Nat.eq_of_beq_eq_true hk
      have ho : o < 102 := gc_k25 (by omega)
      have e := gc_w_at (cs := cs) (ad := ad) (μ := μ) ho
      unfold gc_ent at e
      rw [hk] at e
      refine va_iast hx hb hK hP (gc_wD had μ) hS o 0 e rfl hin hdg (fun H1 locs1 hP1 _ hS1 => ?_)
      rw [gc_w_set (μ' := gc_up μ o i.toNatClampNeg x) ho (by unfold gc_ent; rw [hk, gc_up_eq]; rfl) (fun o' h' => gc_up_ne h')] at hP1
      exact h H1 locs1 ls hP1 hS1 hL (gc_gm_up (by omega) hg)
  case bastore =>
    obtain ⟨h0, h⟩ := gc_Be h
    cases Nat.eq_of_beq_eq_true h0
    obtain ⟨o, i, x, r, rfl, h⟩ := gc_iire h
    · obtain ⟨hk, hin, hx01, h⟩ := gc_Be h
      have hk := Nat.eq_of_beq_eq_true hk
      have ho : o < 102 := gc_k25 (by omega)
      have e := gc_w_at (cs := cs) (ad := ad) (μ := μ) ho
      unfold gc_ent at e
      rw [hk] at e
      refine va_zast hx hb hK hP (gc_wD had μ) hS o 1 e rfl hin hdg (fun H1 locs1 hP1 _ hS1 => ?_)
      have ex : vp_nar .boolean x = x := by rcases hx01 with rfl | rfl <;> rfl
      rw [ex, gc_w_set (μ' := gc_up μ o i.toNatClampNeg x) ho (by unfold gc_ent; rw [hk, gc_up_eq]; rfl) (fun o' h' => gc_up_ne h')] at hP1
      exact h H1 locs1 ls hP1 hS1 hL (gc_gm_up (by omega) hg)
  case arraylength =>
    obtain ⟨h0, h⟩ := gc_Be h
    cases Nat.eq_of_beq_eq_true h0
    obtain ⟨o, r, rfl, h⟩ := gc_1re h
    rcases h with h | h
    · obtain ⟨hk, h⟩ := gc_Be h
      rw [Bool.or_eq_true] at hk
      rcases hk with hk | hk
      · have hk := Nat.eq_of_beq_eq_true hk
        have ho : o < 102 := gc_k25 (by omega)
        have e := gc_w_at (cs := cs) (ad := ad) (μ := μ) ho
        unfold gc_ent at e
        rw [hk] at e
        exact va_alen hx hb hK hP o 0 e rfl rfl hdg (h H locs ls hP hS hL hg)
      · obtain ⟨i2, hi2, rfl⟩ := gc_k33 (Nat.eq_of_beq_eq_true hk)
        have hE := (hPF.2.2.2.2.2.1.1 i2 hi2).2.2.2
        refine va_tlen hx hb hE hS rfl hdg ?_
        rcases (show i2 = 0 ∨ i2 = 1 ∨ i2 = 2 by omega) with rfl | rfl | rfl <;> exact (h H locs ls hP hS hL hg)
    · obtain ⟨hk, h⟩ := gc_Be h
      have ho := gc_k31 (Nat.eq_of_beq_eq_true hk)
      subst ho
      rw [hg.2] at h
      exact va_slen hx hb hPF.2.2.2.2.2.2.2.2.2.1 (Nat.lt_of_lt_of_le hPF.2.2.2.2.2.2.2.2.2.2.1 hsz) (Nat.not_le.mpr hPF.2.2.2.2.2.2.2.2.2.2.1) hS hdg (h H locs ls hP hS hL hg)
  case invokestatic n =>
    obtain ⟨h0, h⟩ := gc_Be h
    cases Nat.eq_of_beq_eq_true h0
    have hszL : ls.size = nL := by obtain ⟨-, -, lq, h1, -⟩ := hL; exact h1.1
    rcases h with h | h | h | h
    · obtain ⟨hk, h⟩ := gc_Be h
      have hk := Nat.eq_of_beq_eq_true hk
      obtain ⟨o1, sp, o2, dp, z, r, rfl, h⟩ := gc_cpae h
      obtain ⟨h8, h⟩ := gc_r4e (ad := ad) h
      obtain ⟨hkk, ⟨g1, g2, g3, g4, g5⟩, h⟩ := gc_Be h
      rw [Bool.and_eq_true] at hkk
      have hk1 := Nat.eq_of_beq_eq_true hkk.1
      have hk2 := Nat.eq_of_beq_eq_true hkk.2
      have ho1 : o1 < 102 := gc_k25 (by omega)
      have ho2 : o2 < 102 := gc_k25 (by omega)
      have e1 := gc_w_at (cs := cs) (ad := ad) (μ := μ) ho1
      unfold gc_ent at e1
      rw [hk1] at e1
      have e2 := gc_w_at (cs := cs) (ad := ad) (μ := μ) ho2
      unfold gc_ent at e2
      rw [hk2] at e2
      refine va_copyi hx hb (by rw [hml, hszL]) hown (hts _ (hTs _ (gc_s_ok hk (by decide)))) (hts _ (hTs _ gc_sw5)) (hts _ (hTs _ gc_sw6)) (hts _ (hTs _ gc_sw7)) hK hP (gc_wD had μ) hS o1 o2 0 0 e1 e2 rfl rfl rfl g1 g2 g3 g4 g5 (fun _ _ => rfl) (by omega) ?_ hdg (fun H1 locs1 hP1 _ hS1 => ?_)
      · have : nativeFrameWords "java/lang/System" "arraycopy" 5 ≤ 20 := by decide +kernel
        omega
      · rw [gc_w_set (μ' := gc_cp μ o1 o2 sp.toNatClampNeg dp.toNatClampNeg z.toNatClampNeg) ho2 (by unfold gc_ent; rw [hk2, gc_cp_eq]; rfl) (fun o' h' => gc_cp_ne h')] at hP1
        exact h H1 locs1 ls hP1 hS1 hL (gc_gm_cp (by omega) hg)
    · obtain ⟨hk, h⟩ := gc_Be h
      have hk := Nat.eq_of_beq_eq_true hk
      obtain ⟨x, y, r, rfl, h⟩ := gc_2ie h
      obtain ⟨h8, h⟩ := gc_r4e (ad := ad) h
      exact va_mmax hx hb (by rw [hml, hszL]) hown (hts _ (hTs _ (gc_s_ok hk (by decide)))) (hts _ (hTs _ gc_sw8)) (hts _ (hTs _ gc_sw9)) (hts _ (hTs _ gc_sw10)) (by omega) (by omega) hcl.1 hcl.2 hdg (h H locs ls hP hS hL hg)
    · obtain ⟨hk, h⟩ := gc_Be h
      have hk := Nat.eq_of_beq_eq_true hk
      obtain ⟨x, y, r, rfl, h⟩ := gc_2ie h
      obtain ⟨h8, h⟩ := gc_r4e (ad := ad) h
      exact va_mmin hx hb (by rw [hml, hszL]) hown (hts _ (hTs _ (gc_s_ok hk (by decide)))) (hts _ (hTs _ gc_sw11)) (hts _ (hTs _ gc_sw9)) (hts _ (hTs _ gc_sw12)) (by omega) (by omega) hcl.1 hcl.2 hdg (h H locs ls hP hS hL hg)
    · obtain ⟨hk, h⟩ := gc_Be h
      rcases gc_oee h with ⟨M, hne, h⟩ | ⟨-, h⟩
      · exact gc_nest hC hx hb hml hown hts hTs hK hPF hsz hcl hR hdg hne h hP hS hL hg
      · rcases gc_oee h with ⟨⟨kind, M⟩, hcc, h⟩ | ⟨-, h⟩
        · exact gc_stat hC hx hb hml hown hts hTs hK hPF hsz hcl hR hdg hcc h hP hS hL hg
        · exact h.elim
  case invokespecial n =>
    obtain ⟨h0, h⟩ := gc_Be h
    cases Nat.eq_of_beq_eq_true h0
    rcases gc_oee h with ⟨⟨kind, M⟩, hcc, h⟩ | ⟨-, h⟩
    · obtain ⟨o, r, hst, h⟩ := gc_rce h
      obtain ⟨hk, h⟩ := gc_Be h
      exact gc_supr hC hx hb hml hown hts hTs hK hPF hsz hcl hR hdg hst hcc (gc_blt hk) h hP hS hL hg
    · exact h.elim
  case invokevirtual n =>
    obtain ⟨h0, h⟩ := gc_Be h
    cases Nat.eq_of_beq_eq_true h0
    obtain ⟨o, r, hst, h⟩ := gc_rce h
    rcases gc_oee h with ⟨⟨kind, M⟩, hcc, h⟩ | ⟨-, h⟩
    · exact gc_virt hC hx hb hml hown hts hTs hK hPF hsz hcl hR hdg hst hcc h hP hS hL hg
    · exact h.elim
  case ireturn =>
    obtain ⟨h0, h⟩ := gc_Be h
    cases Nat.eq_of_beq_eq_true h0
    obtain ⟨v, r, rfl, rfl, hv, h⟩ := gc_1ie h
    exact hI pc ls v μ H locs hdg hv h hP hS hg
  case areturn =>
    obtain ⟨h0, h⟩ := gc_Be h
    cases Nat.eq_of_beq_eq_true h0
    obtain ⟨v, r, rfl, rfl, hv, h⟩ := gc_1re h
    exact hA pc ls v μ H locs hdg hv h hP hS hg
  case return_ =>
    obtain ⟨h0, h⟩ := gc_Be h
    cases Nat.eq_of_beq_eq_true h0
    obtain ⟨rfl, hv, h⟩ := h
    exact hV pc ls μ H locs hdg hv h hP hS hg
  all_goals exact h.elim
/-- every method of the table keeps what the abstract machine says -/
theorem gc_met {l : Launch} {cs : Nat → ClassId} {D : va_G} {ad : Nat → Nat} {b0 Lx : Nat} {xs : Nat → Int32} (had : gc_ad ad b0) : ∀ d, gc_Met l cs D ad b0 xs Lx d (gc_S d)
  | 0 => fun _ _ _ _ _ h => h.elim
  | d + 1 => by
    have ih := gc_met (l := l) (cs := cs) (D := D) (xs := xs) (Lx := Lx) had d
    intro M a μ Rr hM h
    obtain ⟨hle, h⟩ := gc_Be h
    have hle := Nat.le_of_ble_eq_true hle
    have hmok := gc_m_ok hM
    unfold gc_mok at hmok
    simp only [Bool.and_eq_true] at hmok
    obtain ⟨⟨⟨⟨h15, hpl⟩, hos⟩, hrt⟩, -⟩ := hmok
    have hos := of_decide_eq_true hos
    refine Met.ofW (cc := (gc_m M).2.1) (maxL := (gc_m M).2.2.1) (ret := (gc_m M).2.2.2.1) hpl rfl ?_
    intro p e s m args below meth c s₁ B hml hv
    obtain ⟨rfl, hsz, hP, hK, hPF, hg⟩ := hv
    have hx := B.exec
    have hb := B.bytes
    have hr := B.returns
    have hts := atoms_spec (ws := gc_ws M) B.pre
    have hown : s.vm.findClass (gc_m M).1.cls = some m.cls := findClass_of_methodNamed B.named
    rw [← hos] at hown
    have hlocks := B.notSynchronized
    have hent := gc_LR.entry (ad := ad) a hle
    rw [lg_entry_eq]
    refine h (gc_P p l e (headSpec (gc_ws M) (gc_rm (d + 1))).room s m (a.map (gc_tr ad)).toArray below meth c 0 0 (MQ below (gc_Q cs D ad b0 xs Lx Rr) (a.map (gc_tr ad)).toArray s 0 0 (gc_A b0)) cs D ad b0 xs Lx (gc_m M).2.2.1) ?_ s.heap [] _ hP va_S.rf hent hg
    refine gc_one (d := d) ih hx hb hml hown hts (fun w hw => List.mem_cons_of_mem _ hw) hK hPF hsz had ⟨Nat.zero_le _, Nat.zero_le _⟩ ⟨Nat.le_refl _, by show 40 * d + 40 ≤ 40 * (d + 1); omega⟩ ?_ ?_ ?_
    · intro pc ls v μ' H locs hdg hbv hR hP' hS hg'
      have hq : ∀ t : State, t.heap = H → s.WarmedH t.vm → gc_Q cs D ad b0 xs Lx Rr (a.map (gc_tr ad)).toArray s (.returned (some (.int v))) t := fun t ht _ => ⟨⟨some (.int v), μ', rfl, hR, by rw [ht]; exact hP', hg'⟩, hS.F ht⟩
      rcases hbv with h0 | ⟨h1, hv01⟩
      · rw [h0] at hrt
        rw [of_decide_eq_true (show decide ((gc_m M).2.2.2.1 = some .int) = true from hrt)] at hr
        exact W.iret hx hb hr hq hS.2.2 hdg
      · rw [h1] at hrt
        replace hrt : (decide ((gc_m M).2.2.2.1 = some .boolean) || decide ((gc_m M).2.2.2.1 = some .byte)) = true := hrt
        rw [Bool.or_eq_true] at hrt
        rcases hrt with hrt | hrt
        · rw [of_decide_eq_true hrt] at hr
          exact W.zret hx hb hr (by rcases hv01 with rfl | rfl <;> rfl) hq hS.2.2 hdg
        · rw [of_decide_eq_true hrt] at hr
          exact W.zret hx hb hr (by rcases hv01 with rfl | rfl <;> rfl) hq hS.2.2 hdg
    · intro pc ls v μ' H locs hdg hbv hR hP' hS hg'
      rw [hbv] at hrt
      obtain ⟨z, hz⟩ : ∃ z, (gc_m M).2.2.2.1 = some (.object z) := by
        cases hq : (gc_m M).2.2.2.1 with
        | none => rw [hq] at hrt; cases hrt
        | some ft => cases ft <;> rw [hq] at hrt <;> first | exact ⟨_, rfl⟩ | cases hrt
      rw [hz] at hr
      exact W.aret hx hb hr (Or.inl ⟨_, rfl⟩) (Or.inr ⟨_, rfl⟩) (fun t ht _ => ⟨⟨some (.ref v), μ', rfl, hR, by rw [ht]; exact hP', hg'⟩, hS.F ht⟩) hS.2.2 hdg
    · intro pc ls μ' H locs hdg hbv hR hP' hS hg'
      rw [hbv] at hrt
      rw [of_decide_eq_true (show decide ((gc_m M).2.2.2.1 = none) = true from hrt)] at hr
      exact W.vret hx hb hr (fun t ht _ => ⟨⟨none, μ', rfl, hR, by rw [ht]; exact hP', hg'⟩, hS.F ht⟩) hS.2.2 hdg
end SN3
