/-! THE CLAIM OUT OF ONE WALK OF THE LAW'S BODY. Your part is whole_start (and what it stands on); all else here is the same for every law, but numbers. -/
def R_law : String := "GreatCambricLaw"
def lw_P (b : Addr) (xs : List Int32) (args : Array Value) (s : State) : Prop := args = #[.ref b] ∧ s.IntsAt b xs ∧ xs.length ≤ 3072 ∧ (Jvm.Cond.and given_1 narrow_1).before args s = true
def lw_Q (_ : Array Value) (s : State) (o : Outcome) (t : State) : Prop := o = .returned (some (.int 1)) ∧ Framed s o t [] 600000 7302249
def lw_Z (below : List Frame) (a : Array Value) (s : State) : State → Prop := fun t => ∃ o, t.status = .running ∧ Ended t below o ∧ lw_Q a s o t
/-- the law's own end, with 1 on the stack, nothing written that was there before, its room as the claim has it -/
theorem lw_ret {p : Program} {l : Launch} {e : Env} {s : State} {m : MethodId} {below : List Frame} {meth : Method} {c : Code} {b : Nat} (hx : p.tables.exec = Jvm.exec) (hb : c.code = code) (hr : meth.sig.returnType = ret) (hlocks : meth.locks = false) {pc : Nat} {H : Heap} {ls : Array Slot} (hdg : decode code pc = .ok (.ireturn, 1)) : W p l e room_1 s m #[Value.ref b] below meth c H [] 600000 7302249 (lw_Z below #[Value.ref b] s) (F0 m pc ls [.int 1]) := by
  intro T hT X
  obtain ⟨fs, hret, hrun, hended, hW, hframe⟩ := X.leave (v := some (.int 1)) (hlocks := hlocks) (fun h => by rw [hr] at h; cases h)
  have hmeth' : T.vm.method? m = some meth := X.method'
  refine ⟨T.setFrames fs, ?_, .returned (some (.int 1)), hrun, hended, rfl, ⟨_, rfl⟩, hW, hframe⟩
  jvm_step X.here [X.here.top, hx, hb, hdg, hmeth', hr, ret, narrow_b1]
  (try refine ⟨rfl, ?_⟩); (try refine ⟨rfl, ?_⟩)
  first | (intro acts; rw [hret _ acts rfl rfl rfl]) | rw [hret _ _ rfl rfl rfl]
  exact Steps.refl _
/-- what holds at the law's entry: the machine, the code, the tables' words (any of lw_tbl by 'hts w (by decide +kernel)'), the script of L ints xs at the cell b, what the Statement gives of the start (any of its parts by flat_of_before) -/
def lw_At (p : Program) (s : State) (m : MethodId) (meth : Method) (c : Code) (b L : Nat) (xs : Nat → Int32) : Prop :=
  p.tables.exec = Jvm.exec ∧ c.code = code ∧ meth.sig.returnType = ret ∧ c.maxLocals = 4 ∧ s.vm.findClass R_law = some m.cls ∧ (∀ w ∈ lw_tbl, w.before #[Value.ref b] s = true) ∧ va_X b L xs s s.heap ∧ b < s.heap.size ∧ meth.locks = false ∧ (Jvm.Cond.and given_1 narrow_1).before #[Value.ref b] s = true

/-! the law, from its entry -/
def ct_CL (M : Nat) (a : List Value) (h : ct_H) : Option ct_H := if M = 11 then (if a = [.ref 0] ∧ h = ct_u0.2.2.2.1 then some ct_u10.2.2.2.1 else none) else if M = 12 then (if a = [.ref 83] ∧ h = ct_v0.2.2.2.1 then some ct_v4.2.2.2.1 else none) else none
theorem ct_u_st : (0, gc_pad (ct_mt 11).2.2.1 (gc_en [.ref 0]), [], ct_u0.2.2.2.1, 0, 0) = ct_u0 := Option.some.inj (ct_oqe (by decide +kernel))
theorem ct_v_st : (0, gc_pad (ct_mt 12).2.2.1 (gc_en [.ref 83]), [], ct_v0.2.2.2.1, 0, 0) = ct_v0 := Option.some.inj (ct_oqe (by decide +kernel))
theorem ct_CLm {l : Launch} {cs : Nat → ClassId} {D : va_G} {ad : Nat → Nat} {b0 : Nat} (hA : ct_ad ad b0) : ct_Met l cs D ad b0 4 ct_CL := by
  intro M a h h' hM hr
  unfold ct_CL at hr
  by_cases e : M = 11
  · subst e
    rw [if_pos rfl] at hr
    by_cases e2 : a = [.ref 0] ∧ h = ct_u0.2.2.2.1
    · rw [if_pos e2] at hr
      obtain ⟨rfl, rfl⟩ := e2
      cases hr
      exact ct_mk (d := 3) (y := ct_u10) hA (ct_met hA 3) hM (by decide +kernel) (by rw [ct_u_st]; exact ct_u_go) (by decide +kernel) rfl (by decide +kernel) (by decide +kernel)
    · rw [if_neg e2] at hr; cases hr
  · rw [if_neg e] at hr
    by_cases e1 : M = 12
    · subst e1
      rw [if_pos rfl] at hr
      by_cases e2 : a = [.ref 83] ∧ h = ct_v0.2.2.2.1
      · rw [if_pos e2] at hr
        obtain ⟨rfl, rfl⟩ := e2
        cases hr
        exact ct_mk (d := 3) (y := ct_v4) hA (ct_met hA 3) hM (by decide +kernel) (by rw [ct_v_st]; exact ct_v_go) (by decide +kernel) rfl (by decide +kernel) (by decide +kernel)
      · rw [if_neg e2] at hr; cases hr
    · rw [if_neg e1] at hr; cases hr
def st_y : ct_S := (18, [.ref 1001, .ref 0, .ref 83, .int 0], [], st_h, 102, 4419)
set_option maxRecDepth 100000 in
theorem st_run : ct_rs ct_CL 17 code 600000 7302249 10 (0, gc_pad 4 (gc_en [.ref 1001]), [], [], 0, 0) = some st_y := ct_oqe (by decide +kernel)
set_option maxHeartbeats 4000000 in
set_option maxRecDepth 100000 in
/-- THE LAW, from its entry -/
theorem whole_start {p : Program} {e : Env} {s : State} {m : MethodId} {below : List Frame} {meth : Method} {c : Code} (l : Launch) (hflags : l.flags = flags0) {b L : Nat} {xs : Nat → Int32} (hL : L ≤ 3072) (C0 : lw_At p s m meth c b L xs) : W p l e room_1 s m #[Value.ref b] below meth c s.heap [] 0 0 (lw_Z below #[Value.ref b] s) (entryFrame m ([Value.ref b] : List Value).toArray 4) := by
  obtain ⟨hx, hb, hr, hml, hown, hts, hX, hbl, hlocks, hgv⟩ := id C0
  have hown : s.vm.findClass (gc_os 17) = some m.cls := hown
  have hTs : ∀ w ∈ gc_WL, w ∈ lw_tbl := fun w hw => (List.mem_filter.mp hw).1
  obtain ⟨D, cs, hK⟩ := st_K hts
  obtain ⟨kA, sK, sV, k1, k2, k3, v1, r1, r2, r3⟩ := st_PF hts hgv
  have hN : ct_N (st_ac s.heap.size sK b) s := st_N hts (show vk_R RX2 27 "" (sK 0) s from r1)
  have eS : ∀ i, i < 3 → st_ad s.heap.size sK sV kA b (102 + i) = sK i := fun i hi => by
    unfold st_ad
    rw [if_neg (by omega), if_pos (by omega), show 102 + i - 102 = i by omega]
  have eV : ∀ i, i < 3 → st_ad s.heap.size sK sV kA b (105 + i) = sV i := fun i hi => by
    unfold st_ad
    rw [if_neg (by omega), if_neg (by omega), if_pos (by omega), show 105 + i - 105 = i by omega]
  have hPF : gc_PF (st_ad s.heap.size sK sV kA b) s.heap.size xs L s s.heap := by
    refine ⟨va_Nw.of rfl (st_at hts (p := 2142) (by decide +kernel)), va_Nw.of rfl (st_at hts (p := 3147) (by decide +kernel)), k1, k2, k3, ⟨fun i hi => ?_, fun i j hi hj h => ?_⟩, r1, r2, r3, hX, hbl, by omega⟩
    · obtain ⟨q1, q2, q3, q4⟩ := v1.1 i hi
      have e1 := eS i hi
      have e2 := eV i hi
      refine ⟨?_, ?_, ?_, ?_⟩
      · show va_O _ (st_ad s.heap.size sK sV kA b (102 + i)) _ _ _
        rw [e1]; exact q1
      · show va_OF _ _ _ _ (st_ad s.heap.size sK sV kA b (102 + i)) _ _ _
        rw [e1]; exact q2
      · show va_OF _ _ _ (.ref (st_ad s.heap.size sK sV kA b (105 + i))) (st_ad s.heap.size sK sV kA b (102 + i)) _ _ _
        rw [e1, e2]; exact q3
      · show va_T _ (st_ad s.heap.size sK sV kA b (105 + i)) _ _ _ _ _
        rw [e2]; exact q4
    · have h : st_ad s.heap.size sK sV kA b (102 + i) = st_ad s.heap.size sK sV kA b (102 + j) := h
      rw [eS i hi, eS j hj] at h
      exact v1.2 i j hi hj h
  have hent := gc_LR.entry (ad := st_ac s.heap.size sK b) (n := 4) [.ref 1001] (by decide)
  rw [lg_entry_eq]
  refine ct_rs_go _ _ _ st_run (ct_PP p l e room_1 s m #[Value.ref b] below meth c (lw_Z below #[Value.ref b] s) cs D (st_ac s.heap.size sK b) s.heap.size 4) ?_ ?_ s.heap [] _ ⟨Nat.zero_le _, rfl, fun k q h => by cases h⟩ va_S.rf hent
  · intro x z i len hdg hs kk
    exact ct_one (d := 4) (k := 17) (ct_CLm st_acA) hx hb hml hown hts hTs hK hN (Nat.le_refl _) st_acA ⟨Nat.le_of_ble_eq_true rfl, Nat.le_of_ble_eq_true rfl⟩ ⟨Nat.le_of_ble_eq_true rfl, Nat.le_of_ble_eq_true rfl⟩ (fun z => absurd z (by decide)) hdg hs kk
  · intro H locs ls hw hS hLR
    have hP := st_ent (xs := xs) (L := L) (sV := sV) (kA := kA) hw
    obtain ⟨-, -, l0, q3, q4⟩ := hLR
    have hLR2 : gc_LR (st_ad s.heap.size sK sV kA b) 4 ls [.ref 109, .ref 0, .ref 83, .int (nI 0)] := by
      refine ⟨rfl, fun j v hj hv => ?_, l0, q3, fun j v hj hv => ?_⟩
      · match j, hj with
        | 0, hj => cases hj; cases hv
        | 1, hj => cases hj; cases hv
        | 2, hj => cases hj; cases hv
        | 3, hj => cases hj; cases hv
        | j + 4, hj => cases hj
      · match j, hj with
        | 0, hj => cases hj; exact q4 0 (.ref 1001) rfl rfl
        | 1, hj => cases hj; exact q4 1 (.ref 0) rfl rfl
        | 2, hj => cases hj; exact q4 2 (.ref 83) rfl rfl
        | 3, hj => cases hj; exact q4 3 (.int 0) rfl rfl
        | j + 4, hj => cases hj
    have hgm : gc_gm xs L (st_mu xs L) := ⟨fun _ => rfl, rfl⟩
    have hW := l_loop (xs := xs) (L := L) (R := fun v _ => v = some (.int 1)) hL (fun _ => rfl) (L + 6) 0 (st_mu xs L) (by omega) (by omega) st_I hgm.1 hgm.2
    refine hW (gc_P p l e room_1 s m #[Value.ref b] below meth c 102 4419 (lw_Z below #[Value.ref b] s) cs D (st_ad s.heap.size sK sV kA b) s.heap.size xs L 4) (fun pc L' st μ hd => ?_) H locs ls hP hS hLR2 hgm
    refine gc_one (d := 100) (gc_met st_adA 100) hx hb hml hown hts hTs hK hPF (Nat.le_refl _) st_adA ⟨Nat.le_of_ble_eq_true rfl, Nat.le_of_ble_eq_true rfl⟩ ⟨Nat.le_of_ble_eq_true rfl, Nat.le_of_ble_eq_true rfl⟩ ?_ ?_ ?_ pc L' st μ hd
    · intro pc ls v μ H locs hdg hv hR hP hS hg
      have hR : some (Value.int v) = some (.int 1) := hR
      cases hR
      refine va_forget (fun q hq => hS.2.2 q hq) ?_
      refine W.widen (k := 600000) (n := 7302249) (Nat.le_of_ble_eq_true rfl) (Nat.le_of_ble_eq_true rfl) ?_
      exact lw_ret hx hb hr hlocks hdg
    · intro pc ls v μ H locs hdg hv
      cases hv
    · intro pc ls μ H locs hdg hv
      cases hv
set_option maxHeartbeats 4000000 in
theorem lw_walk (l : Launch) (hflags : l.flags = flags0) (b : Addr) (xs : List Int32) : MetFree l x (headSpec (Jvm.Cond.code x code maxLocals ret :: tables_1) room_1) (lw_P b xs) (fun _ _ _ _ _ => True) lw_Q := by
  refine MetFree.of_bodyS (code := code) (maxLocals := maxLocals) (ret := ret) (by decide) ?_ ?_
  · intro args s m h hn
    obtain ⟨meth, c, h1, h2, h3, h4, h5, h6, -, -⟩ := Cond.code_spec hn (atoms_spec (ws := Jvm.Cond.code x code maxLocals ret :: tables_1) h _ List.mem_cons_self)
    exact ⟨meth, c, h1, h2, h3, h4, h5, h6⟩
  · intro p e s m args below meth c s₁ B hml0 hP _
    obtain ⟨rfl, hx, hbd, hgv⟩ := hP
    obtain ⟨scr, harrAt, hlist, hof, hsmall⟩ := hx
    obtain ⟨hcb, hkn, -, -⟩ := State.arrayAt?_spec harrAt
    have hown : s.vm.findClass R_law = some m.cls := findClass_of_methodNamed B.named
    have hts0 : ∀ c ∈ (Jvm.Cond.code x code maxLocals ret :: tables_1), c.before #[Value.ref b] s = true := atoms_spec (ws := Jvm.Cond.code x code maxLocals ret :: tables_1) B.pre
    have hts : ∀ w ∈ lw_tbl, w.before #[Value.ref b] s = true := k2_hts_sels lw_privs (fun w hw => hts0 w (List.mem_cons_of_mem _ hw)) lw_privs_ok
    have hml : c.maxLocals = 4 := B.maxLocals_eq (hts0 _ List.mem_cons_self)
    have X₀ : Stand p l e room_1 s m #[Value.ref b] below meth c s₁ [] 0 0 := Stand.of_body B
    have hh0 : s₁.heap = s.heap := by rw [B.state]; rfl
    have hsz : scr.slots.size = xs.length := by rw [← Array.length_toList, hlist, List.length_map]
    have hval : ∀ j : Nat, j < xs.length → scr.slots[j]? = some (.int (xs.getD j 0)) := fun j hj => by
      rw [← Array.getElem?_toList, hlist]
      simp [hj]
    have hbl : b < s.heap.size := (Array.getElem?_eq_some_iff.mp hcb).1
    have hX : va_X b xs.length (fun j => xs.getD j 0) s s.heap := ⟨scr, hcb, hof, hkn, hsz, hval⟩
    have K : W p l e room_1 s m #[Value.ref b] below meth c s₁.heap [] 0 0 (lw_Z below #[Value.ref b] s) (entryFrame m ([Value.ref b] : List Value).toArray 4) := by
      rw [hh0]
      exact whole_start l hflags hbd ⟨B.exec, B.bytes, B.returns, hml, hown, hts, hX, hbl, B.notSynchronized, hgv⟩
    obtain ⟨t, a1, o, b1, b2, b3⟩ := K s₁ rfl X₀
    exact ⟨t, o, a1, b1, b2, b3⟩
theorem lw_pre_spec {args : Array Value} {s : State} (h : (Jvm.Cond.and given_1 narrow_1).before args s = true) (hr : rest_1_c.before args s = true) : ∃ (b : Addr) (xs : List Int32), lw_P b xs args s := by
  have hs := flat_of_before _ h
  have hq := flat_of_before _ hr
  have hc : (Cond.count 1).before args s = true := hs _ (by decide +kernel)
  have harr : (Cond.arrayOf (.arg 0) .int).before args s = true := hs _ (by decide +kernel)
  have hle : (Cond.le (.length (.arg 0)) (.int 3072)).before args s = true := hs _ (by decide +kernel)
  have hlen : (Cond.isInt (.length (.arg 0))).before args s = true := hq _ (by decide +kernel)
  have hall : (Cond.all (.arg 0) (.isInt (.elem (.arg 0) (.index 0)))).before args s = true := hq _ (by decide +kernel)
  obtain ⟨b, xs, hb, hx⟩ := State.ints_of_pre rfl harr hlen hall
  have hsm : xs.length < 2 ^ 31 := hx.choose_spec.2.2.2
  have hev : (Term.length (.arg 0)).eval args s none [] s = some (.int xs.length.toInt32) := hx.length_eval hb
  have hv := Cond.le_ints hev (show (Term.int 3072).eval args s none [] s = some (.int 3072) from rfl)
  have hd : xs.length.toInt32 ≤ 3072 := by
    simpa [Cond.before, Cond.holds, hv] using hle
  have hN : xs.length ≤ 3072 := (Int32.ofNat_le_ofNat hsm (by decide)).mp (show Int32.ofNat xs.length ≤ Int32.ofNat 3072 from hd)
  exact ⟨b, xs, Cond.one_arg hc (show args[0]? = some (.ref b) from hb), hx, hN, h⟩
theorem lw_comes (l : Launch) (hflags : l.flags = flags0) : Comes l x (Jvm.Cond.code x code maxLocals ret :: tables_1) room_1 (fun tb e args s => Calls_1 tb e args s ∧ rest_1 tb e args s ∧ Pre_1 tb e args s)
    (fun _ _ args s o t => lw_Q args s o t) := by
  intro p e ha hc hk s m args below hf hfit hheap happ hpre
  obtain ⟨b, xs, hP⟩ := lw_pre_spec hpre.2.2 hpre.2.1
  obtain ⟨k, o, h1, h2, h3, hQ⟩ := lw_walk l hflags b xs p e ha hc hk s m args below hf ((Spec.applies_iff_loose hf).mp happ).1 hP trivial
  exact ⟨k, o, h1, h2, h3, hQ⟩
theorem lw_frame {s t : State} {o : Outcome} {args : Array Value} (h : Framed s o t [] 600000 7302249) :
    Framed s o t (fieldLocs frame_1_writes args s ++ arrayLocs frame_1_arrays args s ++ staticLocs frame_1_statics s) 600000 7302249 := h
theorem lw_limb (L : Cond) (hL : ∀ (args : Array Value) (s t : State), L.after args s (.returned (some (.int 1))) t = true) :
    ArmFor flags0 classFile x code maxLocals ret World_1 tables_1 room_1 Calls_1 rest_1 Pre_1
      (fun tb e a s o t => postC L tb e a s o t ∧ Framed s o t (fieldLocs frame_1_writes a s ++ arrayLocs frame_1_arrays a s ++ staticLocs frame_1_statics s) 600000 7302249) := by
  intro l hflags _ _ p e ha hc hk s m args below hf hfit hheap happ hpre
  obtain ⟨k, o, h1, h2, h3, rfl, hF⟩ := lw_comes l hflags p e ha hc hk s m args below hf hfit hheap happ hpre
  exact ⟨k, _, h1, h2, h3, hL args s _, lw_frame hF⟩
theorem i_vc : Claimed_1_1 ∧ Claimed_1_2 := ⟨lw_limb limb_1_1 (fun args s t => by simp [limb_1_1, Cond.after, Cond.holds, Cond.value]), lw_limb limb_1_2 (fun args s t => Cond.after_iff.mpr (by
  first | (rw [show limb_1_2 = Cond.eq .result (.int 1) from rfl, Cond.eq_ints (x := 1) (y := 1) rfl rfl]; simp; done) | (simp [limb_1_2, Cond.value, Term.eval]; done)))⟩

