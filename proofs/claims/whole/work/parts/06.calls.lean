section SN2
variable {p : Program} {l : Launch} {e : Env} {R : Room} {s : State} {m : MethodId} {args : Array Value} {below : List Frame} {meth : Method} {c : Code} {cells slots : Nat} {Q : State → Prop}
variable {cs : Nat → ClassId} {D : va_G} {ad : Nat → Nat} {b0 Lx : Nat} {xs : Nat → Int32} {nL k b : Nat} {cc : ByteArray} {Ts : List Cond}
theorem gc_rok {d maxL F G : Nat} (hmax : maxL ≤ 15) (hR : d + 1 ≤ F ∧ 40 * d + 40 ≤ G) : (gc_rm d).frames + 1 ≤ F ∧ 8 + (maxL + 11) + (gc_rm d).locals ≤ G := ⟨hR.1, by show 8 + (maxL + 11) + 40 * d ≤ G; omega⟩
theorem gc_gid {Ts : List Cond} (hTs : ∀ w ∈ gc_WL, w ∈ Ts) {M : Nat} (h : M < 252) {l : List Cond} (hl : ∀ w ∈ l, w ∈ gc_WL) : GoodIn Ts (l ++ gc_ws M) := gc_gic (ps := []) hTs h hl
theorem gc_sub2 {s : State} {ps mk : ClassId} {dk : Class} (h1 : s.vm.classes[ps]? = some dk) (h2 : dk.super = some mk) : s.vm.isSubclass ps mk = true := by
  have hz : 0 < s.vm.classes.size := Nat.lt_of_le_of_lt (Nat.zero_le _) (Array.getElem?_eq_some_iff.mp h1).1
  obtain ⟨n, hn⟩ : ∃ n, s.vm.classes.size = n + 1 := ⟨s.vm.classes.size - 1, by omega⟩
  unfold Vm.isSubclass
  rw [hn]
  unfold Vm.isSubclassAux
  rw [h1]
  show (ps == mk || match dk.super with | some p => s.vm.isSubclassAux (n + 1) p mk | none => false) = true
  rw [h2]
  show (ps == mk || s.vm.isSubclassAux (n + 1) mk mk) = true
  unfold Vm.isSubclassAux
  simp
theorem gc_callSX {T : State} {locs : List Loc} {cells slots : Nat} (X : Stand p l e R s m args below meth c T locs cells slots) (hexec : p.tables.exec = Jvm.exec) {own owner : String} {index : Nat} {x y : MethodName} {bytes : ByteArray} {maxL : Nat} {ret : Option FieldType}
    (hown : s.vm.findClass own = some m.cls) (hlink : (Cond.methodLink own index x).before args s = true) (hsame : (Cond.sameMethod x.cls owner x.name x.desc).before args s = true) (hsup : (Cond.superclass own x.cls).before args s = true) (hsup2 : (Cond.superclass x.cls owner).before args s = true) (hy : y = ⟨owner, x.name, x.desc⟩)
    (hinst : (Cond.instanceMethod y).before args s = true) (hcode : (Cond.code y bytes maxL ret).before args s = true) (hno : x.name ≠ "<init>")
    {W : Nat} {Pre : Pt → Array Value → Prop} {Post : Pt → Array Value → Option Value → Pt → Prop} (hK : Back l R p e below s args y 3 W Pre Post)
    {b : Addr} {cellB : Cell} {kB : Class} (hcell : T.heap[b]? = some cellB) (hobj : cellB.vm.isStatics = false) (hkB : s.vm.classes[cellB.cls]? = some kB)
    {g : JFrame} (hg : g.method = m) (hsize : g.locals.size = c.maxLocals) {argsL rest : List Value} (hlen : ∀ sig, parseMethodDescriptor x.desc = some sig → argsL.length = sig.parameters.length)
    (hstack : g.stack = argsL.reverse ++ .ref b :: rest) (hW : 2 * g.monitorRoom + (rest.map fun v => v.category).sum ≤ W) (hdg : decode c.code g.pc = .ok (.invokespecial index, 3))
    (hpre : ∀ vm₁, s.WarmedH vm₁ → Pre ⟨T.setVm vm₁, locs, cells, slots⟩ (Value.ref b :: argsL).toArray) :
    ∃ (v : Option Value) (vm₁ : Vm) (B : Pt), s.WarmedH vm₁ ∧ Stand p l e R s m args below meth c B.U B.locs B.cells B.slots ∧ Post ⟨T.setVm vm₁, locs, cells, slots⟩ (Value.ref b :: argsL).toArray v B ∧
      ∀ target, Steps p.tables e below (B.U.setTop { g with pc := g.pc + 3, stack := v.toList ++ rest }) target → Steps p.tables e below (T.setTop g) target := by
  subst hy
  obtain ⟨mk, methM, hnamed, hmethM, hstM, habM⟩ := Cond.instanceMethod_spec hinst
  obtain ⟨methM', cM, hmethM', -, -, -, -, -, -, hsigM⟩ := Cond.code_spec hnamed hcode
  cases hmethM.symm.trans hmethM'
  obtain ⟨ps, dk, kp, hps, hdk, hkp, hsuper, -, -, hnid⟩ := Cond.superclass_spec hown hsup
  obtain ⟨ps2, dk2, kp2, hps2, hdk2, hkp2, hsuper2, -⟩ := Cond.superclass_spec hps hsup2
  have hn : s.methodNamed? ⟨owner, x.name, x.desc⟩ = some mk := hnamed
  have hpm : ps2 = mk.cls := Option.some.inj (hps2.symm.trans (findClass_of_methodNamed hnamed))
  have hsub : s.vm.isSubclass ps mk.cls = true := by rw [← hpm]; exact gc_sub2 hdk2 hsuper2
  obtain ⟨vm₁, X₁, hstep₁⟩ := X.invokespecialUp hexec hown hlink hsame hn hmethM hstM habM hno hdk hnid hps hsuper hsub (a := b) (cell := cellB) hcell
    (fun z h => by rw [h] at hobj; cases hobj) hkB (g := g) hg (argsL := argsL) (rest := rest) (hlen _ hsigM) hstack hdg
  obtain ⟨v, B, X', hpost, hsteps⟩ := hK m meth c ⟨T.setVm vm₁, locs, cells, slots⟩ { g with stack := rest } (.invokespecial index) mk (Value.ref b :: argsL).toArray X₁ hg hsize hdg hW (X₁.named hnamed) (hpre vm₁ X₁.warmed)
  exact ⟨v, vm₁, B, X₁.warmed, X', hpost, fun target h => hstep₁ _ (by rw [doInvoke_state]; exact hsteps.trans h)⟩
theorem gc_runSX {x y : MethodName} {bytes cc : ByteArray} {maxL nL mc ms n index : Nat} {ret : Option FieldType} {ws : List Cond} {rm : Room} {Pc : Array Value → State → Prop} {Qc : Array Value → State → Outcome → State → Prop} {free : Addr → Prop} {Ts : List Cond} {own owner C : String} {cC : ClassId} {H : Heap} {locs : List Loc} {b : Addr} {As rest : List Value} {g : JFrame}
    (hat : ClassAt s C cC) (S : CallFix p m c cc nL s args Ts own) (hM : Met l y ws rm Pc Qc mc ms free) (hy : y = ⟨owner, x.name, x.desc⟩)
    (cw : (rm.cells = mc ∧ rm.slots = ms ∧ rm.frames + 1 ≤ R.frames ∧ 8 + (maxL + 11) + rm.locals ≤ R.locals ∧ (∀ w ∈ ws, ∀ (a' : Array Value) (U : State), s.WarmedH U.vm → w.before a' U = true) ∧ Cond.code y bytes maxL ret ∈ ws) ∧
      (Cond.methodLink own index x).before args s = true ∧ (Cond.sameMethod x.cls owner x.name x.desc).before args s = true ∧ (Cond.superclass own x.cls).before args s = true ∧ (Cond.superclass x.cls owner).before args s = true ∧ (Cond.instanceMethod y).before args s = true ∧ (Cond.initialized y.cls).before args s = true ∧ (Cond.code y bytes maxL ret).before args s = true ∧ x.name ≠ "<init>" ∧ (∀ sig, parseMethodDescriptor x.desc = some sig → n = sig.parameters.length)) (hp : PreV s H C b Pc As)
    (hg : g.method = m) (hn : As.length = n) (hsize : g.locals.size = nL) (hstack : g.stack = As.reverse ++ .ref b :: rest) (hW : 2 * g.monitorRoom + (rest.map fun v => v.category).sum ≤ 8) (hdg : decode cc g.pc = .ok (.invokespecial index, 3)) (hf : cells + mc ≤ R.cells ∧ slots + ms ≤ R.slots) :
    va_Run p l e R s m args below meth c H locs cells slots mc ms g rest (Qc (Value.ref b :: As).toArray) (free) := by
  obtain ⟨⟨hrc, hrs, hfr, hlo, hws, hcw⟩, hl1, hl2, hl3, hl3', hl4, hini, hcode, hno, hlen⟩ := cw
  have hK : Back l R p e below s args y 3 8 (PreOf R mc ms Pc) (PostOf Qc mc ms free) := back_of (bytes := bytes) (maxL := maxL) (ret := ret) hM hp.1 hrc hrs hfr hlo hws hcw (fun a' U hW => word_at hW (Or.inl (by first | rfl | simp [Cond.onTables, Cond.keeps, Cond.steady])) hini)
  obtain ⟨hx, hb, hml, ho, -⟩ := S
  obtain ⟨-, ⟨cellB, hcB, hoB, hclB⟩, hPc⟩ := hp
  obtain ⟨hfc, kB, hkB, -⟩ := hat
  cases hfc.symm.trans hclB
  intro T hT X
  obtain ⟨v, vm₁, ⟨U', l2, c2, s2⟩, hW₁, X', ⟨g', mk, t, L, e1, e2, hq, h1, hL, h2, h3⟩, st⟩ := gc_callSX X hx (bytes := bytes) (maxL := maxL) (ret := ret) ho hl1 hl2 hl3 hl3' hy hl4 hcode hno hK (by rw [hT]; exact hcB) hoB hkB hg (hsize.trans hml.symm) (argsL := As) (rest := rest) (fun sig h => hn.trans (hlen sig h)) hstack hW (by rw [hb]; exact hdg)
    (fun vm₁ hW₁ => ⟨hf.1, hf.2, hPc (T.setVm vm₁) hT hW₁⟩)
  dsimp only [Pt.U, Pt.locs, Pt.cells, Pt.slots] at X' e1 e2 h1 h2 h3 st
  subst h1; subst h2; subst h3
  exact ⟨v, (T.setVm vm₁).calling g' mk (Value.ref b :: As).toArray, t, U', L, hT, X', hL, e1, e2, hq, st⟩
theorem gc_k97 (o : Nat) : gc_kd o ≠ 97 ∧ gc_kd o ≠ 98 := by
  by_cases h : o < 110
  · exact (by decide +kernel : ∀ o, o < 110 → gc_kd o ≠ 97 ∧ gc_kd o ≠ 98) o h
  · rw [gc_k99 h]; decide
theorem gc_k32 {o : Nat} (h : gc_kd o = 32) : ∃ i, i < 3 ∧ o = 102 + i := by
  by_cases h2 : o < 110
  · have : o = 102 ∨ o = 103 ∨ o = 104 := (by decide +kernel : ∀ o, o < 110 → gc_kd o = 32 → o = 102 ∨ o = 103 ∨ o = 104) o h2 h
    rcases this with rfl | rfl | rfl
    · exact ⟨0, by decide, rfl⟩
    · exact ⟨1, by decide, rfl⟩
    · exact ⟨2, by decide, rfl⟩
  · rw [gc_k99 h2] at h; cases h
theorem gc_osn {ci N : Nat} {C : String} {T : u_T} (h : vwCl[ci]? = some (C, T, N)) : gc_os ci = C := by
  match ci, h with
  | 0, h => cases (show some (RX0, TX0, 15) = some (C, T, N) from h); rfl
  | 1, h => cases (show some (RX1, TX1, 0) = some (C, T, N) from h); rfl
  | 2, h => cases (show some (RX2, TX2, 5) = some (C, T, N) from h); rfl
  | 3, h => cases (show some (RX3, TX3, 0) = some (C, T, N) from h); rfl
  | 4, h => cases (show some (RX4, TX4, 0) = some (C, T, N) from h); rfl
  | 5, h => cases (show some (RX5, TX5, 0) = some (C, T, N) from h); rfl
  | 6, h => cases (show some (RX6, TX6, 0) = some (C, T, N) from h); rfl
  | 7, h => cases (show some (RX7, TX7, 3) = some (C, T, N) from h); rfl
  | 8, h => cases (show some (RX8, TX8, 0) = some (C, T, N) from h); rfl
  | 9, h => cases (show some (RX9, TX9, 3) = some (C, T, N) from h); rfl
  | 10, h => cases (show some (RX10, TX10, 0) = some (C, T, N) from h); rfl
  | 11, h => cases (show some (RX11, TX11, 10) = some (C, T, N) from h); rfl
  | 12, h => cases (show some (RX12, TX12, 28) = some (C, T, N) from h); rfl
  | n + 13, h => cases (show none = some (C, T, N) from h)
theorem gc_pd {s : String} {n : Nat} (h : gc_pn s n = true) : (parseMethodDescriptor s).map (fun d => d.parameters.length) = some n := of_decide_eq_true h
theorem gc_mh {s : String} (h : gc_nmh s = true) : s ≠ "java/lang/invoke/MethodHandle" ∧ s ≠ "java/lang/invoke/VarHandle" := by
  unfold gc_nmh at h
  rw [Bool.and_eq_true] at h
  exact ⟨of_decide_eq_true h.1, of_decide_eq_true h.2⟩
theorem gc_ml {M : Nat} (h : M < 252) : (gc_m M).2.2.1 ≤ 15 := by
  have h1 := gc_m_ok h
  unfold gc_mok at h1
  simp only [Bool.and_eq_true] at h1
  exact Nat.le_of_ble_eq_true h1.1.1.1.1
/-- a virtual call -/
theorem gc_virt {d : Nat} {C : gC} (hC : gc_Met l cs D ad b0 xs Lx d C) (hx : p.tables.exec = Jvm.exec) (hb : c.code = cc) (hml : c.maxLocals = nL) (hown : s.vm.findClass (gc_os k) = some m.cls) (hts : ∀ w ∈ Ts, w.before args s = true) (hTs : ∀ w ∈ gc_WL, w ∈ Ts) (hK : va_K D vwCl (gc_ty cs) s) (hPF : gc_PF ad b0 xs Lx s s.heap) (hsz : b0 ≤ s.heap.size) (hcl : cells ≤ R.cells ∧ slots ≤ R.slots) (hR : d + 1 ≤ R.frames ∧ 40 * d + 40 ≤ R.locals)
    {pc idx o kind M : Nat} {L st r : List Value} {μ : gM} {H : Heap} {locs : List Loc} {ls : Array Slot} (hdg : decode cc pc = .ok (.invokevirtual idx, 3)) (hst : st.drop (gc_n k idx) = .ref o :: r) (hc : gc_c k idx (if Nat.beq (gc_kd o) 32 then 15 else gc_kd o) = some (kind, M))
    (h : gc_cl C M (gc_n k idx) [.ref o] (gc_P p l e R s m args below meth c cells slots Q cs D ad b0 xs Lx nL) pc L st r μ)
    (hP : va_P D vwCl (gc_w cs ad μ) H) (hS : va_S (gc_A b0) s.heap H locs) (hL : gc_LR ad nL ls L) (hg : gc_gm xs Lx μ) : W p l e R s m args below meth c H locs cells slots Q (F0 m pc ls (st.map (gc_tr ad))) := by
  obtain ⟨n, M0, ow, x, ps, hok⟩ := gc_c_ok hc
  have hrc : (if Nat.beq (gc_kd o) 32 then 15 else gc_kd o) = gc_kd o ∨ (gc_kd o = 32 ∧ (if Nat.beq (gc_kd o) 32 then 15 else gc_kd o) = 15) := by
    cases hz : Nat.beq (gc_kd o) 32
    · exact Or.inl rfl
    · exact Or.inr ⟨Nat.eq_of_beq_eq_true hz, rfl⟩
  have hlow : (if Nat.beq (gc_kd o) 32 then 15 else gc_kd o) < 97 → gc_kd o < 110 := by
    rcases hrc with e | ⟨e, -⟩
    · rw [e]; omega
    · omega
  generalize (if Nat.beq (gc_kd o) 32 then 15 else gc_kd o) = rc at *
  unfold gc_cok at hok
  simp only [Bool.and_eq_true] at hok
  obtain ⟨⟨⟨⟨⟨⟨hw, hwg⟩, hM⟩, hM0⟩, hmh⟩, hnn⟩, hkd⟩ := hok
  have hw := gc_wls (of_decide_eq_true hw) hwg
  have hM : M < 252 := gc_blt hM
  have hM0 : M0 < 252 := gc_blt hM0
  have hnn : gc_n k idx = n := Nat.eq_of_beq_eq_true hnn
  rw [hnn] at hst h
  have hmax := gc_ml hM
  have recv : (rc < 13 ∨ rc = 15) → ∃ cell : Cell, H[ad o]? = some cell ∧ cell.vm.isStatics = false ∧ s.vm.findClass (gc_os rc) = some cell.cls := by
    intro h0
    rcases hrc with e | ⟨e, e2⟩
    · subst e
      have ho : gc_kd o < 13 := by
        rcases h0 with h0 | h0
        · exact h0
        · exact (gc_k13 o (gc_k25 (by omega)) (by omega)).1
      have h13 := (gc_k13 o (gc_k25 (by omega)) (by omega)).2
      cases hv : vwCl[gc_kd o]? with
      | none => rw [hv] at h13; cases h13
      | some q =>
        obtain ⟨C', T', N'⟩ := q
        rw [gc_osn hv]
        exact gc_obj hK hP ho hv
    · subst e2
      obtain ⟨i, hi, rfl⟩ := gc_k32 e
      exact vk_recv (i := i) hPF.2.2.2.2.2.1 hi hS
  have hsize : (F0 m pc ls (st.map (gc_tr ad))).locals.size = nL := by obtain ⟨-, -, l, h1, -⟩ := hL; exact h1.1
  have pre := gc_pre hsz hK hPF hg hP hS
  refine gc_call hC hM h hst hP hS hL hg (fun Rp h8 hMet hlen hstk => ?_)
  have S : CallFix p m c cc nL s args Ts (gc_os k) := ⟨hx, hb, hml, hown, hts⟩
  have hstk2 : st.map (gc_tr ad) = ((st.take n).reverse.map (gc_tr ad)).reverse ++ .ref (ad o) :: r.map (gc_tr ad) := hstk
  have hlen2 : ((st.take n).reverse.map (gc_tr ad)).length = n := by simpa using hlen
  have room8 : 2 * (F0 m pc ls (st.map (gc_tr ad))).monitorRoom + ((r.map (gc_tr ad)).map fun v => v.category).sum ≤ 8 := by
    show 2 * 0 + _ ≤ 8
    omega
  have hrc97 : rc ≠ 97 ∧ rc ≠ 98 := by
    rcases hrc with e | ⟨-, e⟩
    · rw [e]; exact gc_k97 o
    · omega
  match kind, hkd, hw with
  | 0, hkd, hw =>
    simp only [Bool.and_eq_true] at hkd
    exact absurd (Nat.eq_of_beq_eq_true hkd.2) hrc97.1
  | 1, hkd, hw =>
    simp only [Bool.and_eq_true, Bool.or_eq_true] at hkd
    have hrc17 : rc < 13 ∨ rc = 15 := hkd.1.2.imp (fun z => gc_blt z) Nat.eq_of_beq_eq_true
    exact va_runV S hMet (cwV n hts (gc_gid hTs hM hw) rfl rfl rfl ⟨of_decide_eq_true hkd.2, (gc_mh hmh).1, (gc_mh hmh).2, gc_pd hkd.1.1⟩ (gc_rok hmax hR)) ⟨gc_blind, recv hrc17, fun U hU hW => ⟨rfl, pre U hU hW⟩⟩ rfl hlen2 hsize hstk2 room8 hdg ⟨by omega, by omega⟩
  | 2, hkd, hw =>
    simp only [Bool.and_eq_true] at hkd
    have hrc13 : rc < 13 := gc_blt hkd.2
    exact va_runU S hMet (va_cwU (owner := ow) (x := x) n hts (gc_gid hTs hM hw) rfl rfl rfl (of_decide_eq_true hkd.1.1.2) ⟨(gc_mh hkd.1.2).1, (gc_mh hkd.1.2).2, gc_pd hkd.1.1.1⟩ (gc_rok hmax hR)) ⟨gc_blind, recv (Or.inl hrc13), fun U hU hW => ⟨rfl, pre U hU hW⟩⟩ rfl hlen2 hsize hstk2 room8 hdg ⟨by omega, by omega⟩
  | 3, hkd, hw =>
    simp only [Bool.and_eq_true] at hkd
    have hrc13 : rc < 13 := gc_blt hkd.2
    have hm0 := gc_m_code hM0
    rw [of_decide_eq_true hkd.1.1.2] at hm0
    exact va_runU S hMet (va_cwO (owner := ow) (x := x) n hts (gc_gid hTs hM hw) rfl rfl rfl (hTs _ hm0) ⟨(gc_mh hkd.1.2).1, (gc_mh hkd.1.2).2, gc_pd hkd.1.1.1⟩ (gc_rok hmax hR)) ⟨gc_blind, recv (Or.inl hrc13), fun U hU hW => ⟨rfl, pre U hU hW⟩⟩ rfl hlen2 hsize hstk2 room8 hdg ⟨by omega, by omega⟩
  | 4, hkd, hw =>
    simp only [Bool.and_eq_true] at hkd
    exact absurd (Nat.eq_of_beq_eq_true hkd.2) hrc97.2
  | 5, hkd, _ => cases hkd
  | 6, hkd, hw =>
    simp only [Bool.and_eq_true] at hkd
    exact absurd (Nat.eq_of_beq_eq_true hkd.2) hrc97.2
  | _ + 7, hkd, _ => cases hkd
/-- a call of super's -/
theorem gc_supr {d : Nat} {C : gC} (hC : gc_Met l cs D ad b0 xs Lx d C) (hx : p.tables.exec = Jvm.exec) (hb : c.code = cc) (hml : c.maxLocals = nL) (hown : s.vm.findClass (gc_os k) = some m.cls) (hts : ∀ w ∈ Ts, w.before args s = true) (hTs : ∀ w ∈ gc_WL, w ∈ Ts) (hK : va_K D vwCl (gc_ty cs) s) (hPF : gc_PF ad b0 xs Lx s s.heap) (hsz : b0 ≤ s.heap.size) (hcl : cells ≤ R.cells ∧ slots ≤ R.slots) (hR : d + 1 ≤ R.frames ∧ 40 * d + 40 ≤ R.locals)
    {pc idx o kind M : Nat} {L st r : List Value} {μ : gM} {H : Heap} {locs : List Loc} {ls : Array Slot} (hdg : decode cc pc = .ok (.invokespecial idx, 3)) (hst : st.drop (gc_n k idx) = .ref o :: r) (hc : gc_c k idx 98 = some (kind, M)) (hko : gc_kd o < 13)
    (h : gc_cl C M (gc_n k idx) [.ref o] (gc_P p l e R s m args below meth c cells slots Q cs D ad b0 xs Lx nL) pc L st r μ)
    (hP : va_P D vwCl (gc_w cs ad μ) H) (hS : va_S (gc_A b0) s.heap H locs) (hL : gc_LR ad nL ls L) (hg : gc_gm xs Lx μ) : W p l e R s m args below meth c H locs cells slots Q (F0 m pc ls (st.map (gc_tr ad))) := by
  obtain ⟨n, M0, ow, x, ps, hok⟩ := gc_c_ok hc
  unfold gc_cok at hok
  simp only [Bool.and_eq_true] at hok
  obtain ⟨⟨⟨⟨⟨⟨hw, hwg⟩, hM⟩, hM0⟩, hmh⟩, hnn⟩, hkd⟩ := hok
  have hw := gc_wls (of_decide_eq_true hw) hwg
  have hM : M < 252 := gc_blt hM
  have hnn : gc_n k idx = n := Nat.eq_of_beq_eq_true hnn
  rw [hnn] at hst h
  have hmax := gc_ml hM
  have hsize : (F0 m pc ls (st.map (gc_tr ad))).locals.size = nL := by obtain ⟨-, -, l, h1, -⟩ := hL; exact h1.1
  have pre := gc_pre hsz hK hPF hg hP hS
  refine gc_call hC hM h hst hP hS hL hg (fun Rp h8 hMet hlen hstk => ?_)
  have S : CallFix p m c cc nL s args Ts (gc_os k) := ⟨hx, hb, hml, hown, hts⟩
  have hstk2 : st.map (gc_tr ad) = ((st.take n).reverse.map (gc_tr ad)).reverse ++ .ref (ad o) :: r.map (gc_tr ad) := hstk
  have hlen2 : ((st.take n).reverse.map (gc_tr ad)).length = n := by simpa using hlen
  have room8 : 2 * (F0 m pc ls (st.map (gc_tr ad))).monitorRoom + ((r.map (gc_tr ad)).map fun v => v.category).sum ≤ 8 := by
    show 2 * 0 + _ ≤ 8
    omega
  have h13 := (gc_k13 o (gc_k25 (by omega)) (by omega)).2
  cases hv : vwCl[gc_kd o]? with
  | none => rw [hv] at h13; cases h13
  | some q =>
    obtain ⟨C', T', N'⟩ := q
    match kind, hkd, hw with
    | 0, hkd, hw =>
      simp only [Bool.and_eq_true] at hkd
      exact absurd (Nat.eq_of_beq_eq_true hkd.2) (by decide)
    | 1, hkd, hw =>
      simp only [Bool.and_eq_true, Bool.or_eq_true] at hkd
      rcases hkd.1.2 with z | z <;> exact absurd z (by decide)
    | 2, hkd, hw =>
      simp only [Bool.and_eq_true] at hkd
      exact absurd hkd.2 (by decide)
    | 3, hkd, hw =>
      simp only [Bool.and_eq_true] at hkd
      exact absurd hkd.2 (by decide)
    | 4, hkd, hw =>
      simp only [Bool.and_eq_true] at hkd
      exact va_runSU (C := C') (hK.1 _ _ hv).2 S hMet (va_cwSU n hts (gc_gid hTs hM hw) rfl rfl rfl ⟨of_decide_eq_true hkd.1.2, gc_pd hkd.1.1⟩ (gc_rok hmax hR)) ⟨gc_blind, gc_obj hK hP hko hv, fun U hU hW => ⟨rfl, pre U hU hW⟩⟩ rfl hlen2 hsize hstk2 room8 hdg ⟨by omega, by omega⟩
    | 5, hkd, _ => cases hkd
    | 6, hkd, hw =>
      simp only [Bool.and_eq_true] at hkd
      have hx6 : (gc_m M).1 = ⟨ow, x.name, x.desc⟩ := of_decide_eq_true hkd.1.1.2
      have hwb : ∀ w ∈ gc_cwd (k, idx, 98, 6, M, n, M0, ow, x, ps), w.before args s = true := fun w h => hts w (hTs w (hw w h))
      exact gc_runSX (C := C') (owner := ow) (x := x) (hK.1 _ _ hv).2 S hMet hx6 ⟨⟨rfl, rfl, (gc_rok hmax hR).1, (gc_rok hmax hR).2, pay_in hts (gc_gin hTs hM), List.mem_cons_self⟩, hwb _ (List.mem_of_getElem? (i := 0) rfl), hwb _ (List.mem_of_getElem? (i := 1) rfl), hwb _ (List.mem_of_getElem? (i := 2) rfl), hwb _ (List.mem_of_getElem? (i := 3) rfl), hwb _ (List.mem_of_getElem? (i := 4) rfl), hwb _ (List.mem_of_getElem? (i := 5) rfl), hts _ (hTs _ (gc_m_code hM)), of_decide_eq_true hkd.1.2, fun sig h => by have h2 := gc_pd hkd.1.1.1; rw [h] at h2; exact (Option.some.inj h2).symm⟩ ⟨gc_blind, gc_obj hK hP hko hv, fun U hU hW => ⟨rfl, pre U hU hW⟩⟩ rfl hlen2 hsize hstk2 room8 hdg ⟨by omega, by omega⟩
    | _ + 7, hkd, _ => cases hkd
/-- a static call -/
theorem gc_stat {d : Nat} {C : gC} (hC : gc_Met l cs D ad b0 xs Lx d C) (hx : p.tables.exec = Jvm.exec) (hb : c.code = cc) (hml : c.maxLocals = nL) (hown : s.vm.findClass (gc_os k) = some m.cls) (hts : ∀ w ∈ Ts, w.before args s = true) (hTs : ∀ w ∈ gc_WL, w ∈ Ts) (hK : va_K D vwCl (gc_ty cs) s) (hPF : gc_PF ad b0 xs Lx s s.heap) (hsz : b0 ≤ s.heap.size) (hcl : cells ≤ R.cells ∧ slots ≤ R.slots) (hR : d + 1 ≤ R.frames ∧ 40 * d + 40 ≤ R.locals)
    {pc idx kind M : Nat} {L st : List Value} {μ : gM} {H : Heap} {locs : List Loc} {ls : Array Slot} (hdg : decode cc pc = .ok (.invokestatic idx, 3)) (hc : gc_c k idx 97 = some (kind, M))
    (h : gc_cl C M (gc_n k idx) [] (gc_P p l e R s m args below meth c cells slots Q cs D ad b0 xs Lx nL) pc L st (st.drop (gc_n k idx)) μ)
    (hP : va_P D vwCl (gc_w cs ad μ) H) (hS : va_S (gc_A b0) s.heap H locs) (hL : gc_LR ad nL ls L) (hg : gc_gm xs Lx μ) : W p l e R s m args below meth c H locs cells slots Q (F0 m pc ls (st.map (gc_tr ad))) := by
  obtain ⟨n, M0, ow, x, ps, hok⟩ := gc_c_ok hc
  unfold gc_cok at hok
  simp only [Bool.and_eq_true] at hok
  obtain ⟨⟨⟨⟨⟨⟨hw, hwg⟩, hM⟩, hM0⟩, hmh⟩, hnn⟩, hkd⟩ := hok
  have hw := gc_wls (of_decide_eq_true hw) hwg
  have hM : M < 252 := gc_blt hM
  have hnn : gc_n k idx = n := Nat.eq_of_beq_eq_true hnn
  rw [hnn] at h
  have hmax := gc_ml hM
  have hsize : (F0 m pc ls (st.map (gc_tr ad))).locals.size = nL := by obtain ⟨-, -, l, h1, -⟩ := hL; exact h1.1
  have pre := gc_pre hsz hK hPF hg hP hS
  refine gc_call hC hM h rfl hP hS hL hg (fun Rp h8 hMet hlen hstk => ?_)
  have S : CallFix p m c cc nL s args Ts (gc_os k) := ⟨hx, hb, hml, hown, hts⟩
  have hlen2 : ((st.take n).reverse.map (gc_tr ad)).length = n := by simpa using hlen
  have room8 : 2 * (F0 m pc ls (st.map (gc_tr ad))).monitorRoom + (((st.drop n).map (gc_tr ad)).map fun v => v.category).sum ≤ 8 := by
    show 2 * 0 + _ ≤ 8
    omega
  match kind, hkd, hw with
  | 0, hkd, hw =>
    simp only [Bool.and_eq_true] at hkd
    exact va_runS S hMet (va_cwS n hts (gc_gid hTs hM hw) rfl rfl rfl ⟨(gc_mh hmh).1, (gc_mh hmh).2, gc_pd hkd.1⟩ (gc_rok hmax hR)) ⟨gc_blind, fun U hU hW => ⟨rfl, pre U hU hW⟩⟩ rfl hlen2 hsize hstk room8 hdg ⟨by omega, by omega⟩
  | 1, hkd, hw =>
    simp only [Bool.and_eq_true, Bool.or_eq_true] at hkd
    rcases hkd.1.2 with z | z <;> exact absurd z (by decide)
  | 2, hkd, hw =>
    simp only [Bool.and_eq_true] at hkd
    exact absurd hkd.2 (by decide)
  | 3, hkd, hw =>
    simp only [Bool.and_eq_true] at hkd
    exact absurd hkd.2 (by decide)
  | 4, hkd, hw =>
    simp only [Bool.and_eq_true] at hkd
    exact absurd (Nat.eq_of_beq_eq_true hkd.2) (by decide)
  | 5, hkd, _ => cases hkd
  | 6, hkd, hw =>
    simp only [Bool.and_eq_true] at hkd
    exact absurd (Nat.eq_of_beq_eq_true hkd.2) (by decide)
  | _ + 7, hkd, _ => cases hkd
/-- a nest mate's static -/
theorem gc_nest {d : Nat} {C : gC} (hC : gc_Met l cs D ad b0 xs Lx d C) (hx : p.tables.exec = Jvm.exec) (hb : c.code = cc) (hml : c.maxLocals = nL) (hown : s.vm.findClass (gc_os k) = some m.cls) (hts : ∀ w ∈ Ts, w.before args s = true) (hTs : ∀ w ∈ gc_WL, w ∈ Ts) (hK : va_K D vwCl (gc_ty cs) s) (hPF : gc_PF ad b0 xs Lx s s.heap) (hsz : b0 ≤ s.heap.size) (hcl : cells ≤ R.cells ∧ slots ≤ R.slots) (hR : d + 1 ≤ R.frames ∧ 40 * d + 40 ≤ R.locals)
    {pc idx M : Nat} {L st : List Value} {μ : gM} {H : Heap} {locs : List Loc} {ls : Array Slot} (hdg : decode cc pc = .ok (.invokestatic idx, 3)) (hc : gc_ne k idx = some M)
    (h : gc_cl C M 1 [] (gc_P p l e R s m args below meth c cells slots Q cs D ad b0 xs Lx nL) pc L st (st.drop 1) μ)
    (hP : va_P D vwCl (gc_w cs ad μ) H) (hS : va_S (gc_A b0) s.heap H locs) (hL : gc_LR ad nL ls L) (hg : gc_gm xs Lx μ) : W p l e R s m args below meth c H locs cells slots Q (F0 m pc ls (st.map (gc_tr ad))) := by
  obtain ⟨hk0, hM, hnw, hst, hini, hpd, hmh⟩ : gc_os k = RX0 ∧ M < 252 ∧ va_Nw (.methodLinkNest RX0 idx (gc_m M).1 RX11) s ∧ Cond.static (gc_m M).1 ∈ gc_WL ∧ Cond.initialized (gc_m M).1.cls ∈ gc_WL ∧ gc_pn (gc_m M).1.desc 1 = true ∧ gc_nmh (gc_m M).1.cls = true := by
    unfold gc_ne at hc
    cases hf : gc_nT.find? (fun e => Nat.beq e.1 k && Nat.beq e.2.1 idx) with
    | none => rw [hf] at hc; cases hc
    | some e =>
      rw [hf] at hc
      have h1 := List.find?_some hf
      have h2 := List.mem_of_find?_eq_some hf
      simp only [Bool.and_eq_true] at h1
      have e1 := Nat.eq_of_beq_eq_true h1.1
      have e2 := Nat.eq_of_beq_eq_true h1.2
      have e3 : e.2.2.2.2.1 = M := Option.some.inj hc
      subst e1; subst e2; subst e3
      rcases List.mem_cons.mp h2 with rfl | h2
      · exact ⟨rfl, by decide, hPF.1, gc_wl (i := 2143) (by decide +kernel) rfl, gc_wl (i := 1001) (by decide +kernel) rfl, by decide +kernel, by decide +kernel⟩
      · rcases List.mem_cons.mp h2 with rfl | h2
        · exact ⟨rfl, by decide, hPF.2.1, gc_wl (i := 2045) (by decide +kernel) rfl, gc_wl (i := 1001) (by decide +kernel) rfl, by decide +kernel, by decide +kernel⟩
        · cases h2
  have hmax := gc_ml hM
  have hsize : (F0 m pc ls (st.map (gc_tr ad))).locals.size = nL := by obtain ⟨-, -, l, h1, -⟩ := hL; exact h1.1
  have pre := gc_pre hsz hK hPF hg hP hS
  refine gc_call hC hM h rfl hP hS hL hg (fun Rp h8 hMet hlen hstk => ?_)
  have S : CallFix p m c cc nL s args Ts RX0 := ⟨hx, hb, hml, hk0 ▸ hown, hts⟩
  have hlen2 : ((st.take 1).reverse.map (gc_tr ad)).length = 1 := by simpa using hlen
  have room8 : 2 * (F0 m pc ls (st.map (gc_tr ad))).monitorRoom + (((st.drop 1).map (gc_tr ad)).map fun v => v.category).sum ≤ 8 := by
    show 2 * 0 + _ ≤ 8
    omega
  exact va_runSN S hMet ⟨va_cnB 1 hts (gc_gin hTs hM) rfl rfl rfl hnw (hts _ (hTs _ hini)) ⟨(gc_mh hmh).1, (gc_mh hmh).2, gc_pd hpd⟩ (gc_rok hmax hR), hts _ (hTs _ hst), trivial⟩ ⟨gc_blind, fun U hU hW => ⟨rfl, pre U hU hW⟩⟩ rfl hlen2 hsize hstk room8 hdg ⟨by omega, by omega⟩
end SN2
