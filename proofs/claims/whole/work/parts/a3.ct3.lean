/-! constructors: the machine stands behind the executor -/
section CTS
variable {p : Program} {l : Launch} {e : Env} {R : Room} {s : State} {m : MethodId} {args : Array Value} {below : List Frame} {meth : Method} {c : Code} {cells slots : Nat} {Q : State → Prop} {H : Heap} {locs : List Loc}
variable {cs : Nat → ClassId} {D : va_G} {ad : Nat → Nat} {b0 : Nat} {nL k nc ns : Nat} {cc : ByteArray} {Ts : List Cond}
/-- a field is written -/
theorem ct_put (hx : p.tables.exec = Jvm.exec) (hb : c.code = cc) {own C : String} {T : u_T} {N ci index : Nat} (hts : ∀ w ∈ Ts, w.before args s = true) (hin : ∀ w ∈ u_ws C T N, w ∈ Ts) (ty0 : Nat → FieldType) (hty : ∀ k, k < N → parseFieldDescriptor (T k).2.2.1 = some (ty0 k)) (hnm : ∀ a, a < N → ∀ b, b < N → a ≠ b → (T a).2.1 ≠ (T b).2.1) (hown : s.vm.findClass own = some m.cls) {tys : List (ClassId × FieldType)} (hK : va_K D vwCl tys s) {a : Nat} {fs : List Value} (he : va_at D vwCl (a, .inr (ci, fs)) H) (hc : vwCl[ci]? = some (C, T, N)) (j : Nat) (hj : j < N) (hdecl : (T j).1 = own) (hlink : (Cond.fieldLink own index (T j).1 (T j).2.1 (T j).2.2.1).before args s = true) (hin2 : meth.name = "<init>") {ty : FieldType} {v : Value} (hd : parseFieldDescriptor (T j).2.2.1 = some ty) (hn : narrow ty v = v) (hfit : fits ty v = true) (hl : j < fs.length) {pc : Nat} {ls : Array Slot} {rest : List Value} (hdg : decode cc pc = .ok (.putfield index, 3))
    (kk : ∀ (H1 : Heap) (x : Nat), H1.size = H.size → (∀ q, q ≠ a → H1[q]? = H[q]?) → va_at D vwCl (a, .inr (ci, fs.set j v)) H1 → W p l e R s m args below meth c H1 (locs ++ [⟨a, x⟩]) cells slots Q (F0 m (pc + 3) ls rest)) : W p l e R s m args below meth c H locs cells slots Q (F0 m pc ls (v :: .ref a :: rest)) := by
  have hap := va_apart (own := own) hts hin ty0 hty hnm hK hc
  obtain ⟨r, h1, cell, q1, q2, q3, q4⟩ := he
  obtain rfl : r = (C, T, N) := Option.some.inj (h1.symm.trans hc)
  obtain ⟨hS, hfc, kC, hkC, hkind⟩ := hK.1 ci _ hc
  obtain ⟨cf, kf, fi, f, hi, hsl⟩ := hS j hj
  have hlay := hts _ (hin _ (u_in_lay hj))
  unfold u_lay at hlay
  have hst := (u_facts hfc hkC (u_lays hts hin hj) hi).1
  cases hfin : (T j).2.2.2 with
  | false =>
    rw [if_neg (by rw [hfin]; decide)] at hlay
    have h6 := u_store hfc hkC hkind hlay hi hd hn hfit
    refine W.putK hx hb (f := f) ⟨hown, hlink, ⟨_, _, _, hi⟩, hst⟩ (by rw [q2]; exact h6) q1 q3 (by rw [hsl]; exact k2_hasslot (q4 j hj)) rfl rfl hdg fun H' e1 e2 e3 => ?_
    rw [hsl] at e1 ⊢
    exact kk H' _ e2 e3 ⟨_, hc, t_OB.to (V := updV (vp_V fs) j v) ⟨_, e1, q2, q3, t_set q4 hap hj v⟩ (fun i _ => vp_updV_set hl v i)⟩
  | true =>
    rw [if_pos hfin] at hlay
    have hcf : m.cls = cf := by
      obtain ⟨_, _, c', _, _, _, -, -, hf', -, -, -, hown2, -⟩ := Cond.laysFinal_spec hlay
      have e1 : c' = cf := by have := hi.symm.trans hf'; simp at this; exact this.1.symm
      rw [hdecl] at hown2
      rw [← e1]; exact Option.some.inj (hown.symm.trans hown2)
    have h6 := u_fits hfc hkC hkind (Or.inr hlay) hi hd hn hfit
    refine W.putFinK hx hb hown hlink hi hst hcf hin2 (by rw [q2]; exact h6) q1 q3 (by rw [hsl]; exact k2_hasslot (q4 j hj)) rfl rfl hdg fun H' e1 e2 e3 => ?_
    rw [hsl] at e1 ⊢
    exact kk H' _ e2 e3 ⟨_, hc, t_OB.to (V := updV (vp_V fs) j v) ⟨_, e1, q2, q3, t_set q4 hap hj v⟩ (fun i _ => vp_updV_set hl v i)⟩
theorem ct_push {h : ct_H} {x : Nat × Nat × List Value} {H1 : Heap} (hw : ct_wd D cs ad b0 h H) (hl : h.length ≤ 998) (z1 : H1.size = H.size + 1) (o1 : ∀ q, q < H.size → H1[q]? = H[q]?) (hc : va_at D vwCl (ad h.length, ct_c cs ad x) H1) : ct_wd D cs ad b0 (h ++ [x]) H1 := by
  obtain ⟨h1, h2, h3⟩ := hw
  refine ⟨by rw [List.length_append]; show h.length + 1 ≤ 1000; omega, by rw [List.length_append, z1, h2]; show b0 + h.length + 1 = b0 + (h.length + 1); omega, ?_⟩
  rw [ct_app0]
  refine (h3.kept (fun i y hy => o1 _ ((h3 i y hy).lt))).app (fun i y hy => ?_)
  have hz : i < 1 := (List.getElem?_eq_some_iff.mp hy).1
  rw [show i = 0 by omega] at hy
  cases hy
  exact hc
theorem ct_upd {h : ct_H} {o : Nat} {x y : Nat × Nat × List Value} {H1 : Heap} (hA : ct_ad ad b0) (hw : ct_wd D cs ad b0 h H) (ho : h[o]? = some x) (z : H1.size = H.size) (oq : ∀ q, q ≠ ad o → H1[q]? = H[q]?) (hc : va_at D vwCl (ad o, ct_c cs ad y) H1) : ct_wd D cs ad b0 (h.set o y) H1 := by
  obtain ⟨h1, h2, h3⟩ := hw
  refine ⟨by rw [List.length_set]; exact h1, by rw [List.length_set, z, h2], ?_⟩
  have := h3.set (ct_lD hA h1) (ct_at0 (cs := cs) (ad := ad) ho) hc oq
  rw [ct_set0] at this
  exact this
theorem ct_grow {h1 h2 : Heap} {A : Nat → Prop} {H0 : Heap} (hS : va_S A H0 h1 locs) (z1 : h2.size = h1.size + 1) (o1 : ∀ q, q < h1.size → h2[q]? = h1[q]?) : va_S A H0 h2 locs := ⟨Nat.le_trans hS.1 (by omega), fun x q1 q2 => (o1 x (Nat.lt_of_lt_of_le q1 hS.1)).trans (hS.2.1 x q1 q2), hS.2.2⟩
def ct_PP (p : Program) (l : Launch) (e : Env) (R : Room) (s : State) (m : MethodId) (args : Array Value) (below : List Frame) (meth : Method) (c : Code) (Q : State → Prop) (cs : Nat → ClassId) (D : va_G) (ad : Nat → Nat) (b0 nL : Nat) (x : ct_S) : Prop :=
  ∀ (H : Heap) (locs : List Loc) (ls : Array Slot), ct_wd D cs ad b0 x.2.2.2.1 H → va_S (gc_A b0) s.heap H locs → gc_LR ad nL ls x.2.1 → W p l e R s m args below meth c H locs x.2.2.2.2.1 x.2.2.2.2.2 Q (F0 m x.1 ls (x.2.2.1.map (gc_tr ad)))
theorem ct_aft {mc ms pc : Nat} {ls : Array Slot} {st0 rest : List Value} {h' : ct_H} {a : Array Value} (hr : va_Run p l e R s m args below meth c H locs cells slots mc ms (F0 m pc ls st0) rest (ct_Q cs D ad b0 h' a) (gc_A b0)) (hS : va_S (gc_A b0) s.heap H locs)
    (kk : ∀ (H1 : Heap) (locs1 : List Loc), ct_wd D cs ad b0 h' H1 → va_S (gc_A b0) s.heap H1 locs1 → W p l e R s m args below meth c H1 locs1 (cells + mc) (slots + ms) Q (F0 m (pc + 3) ls rest)) : W p l e R s m args below meth c H locs cells slots Q (F0 m pc ls st0) := by
  intro T hT X
  obtain ⟨v, st₀, t, T', L, h0, X', hL, e1, e2, ⟨hv, hb, hz, hk⟩, st⟩ := hr T hT X
  cases hv
  rw [h0] at hz hk
  obtain ⟨t2, a1, b1⟩ := kk T'.heap (locs ++ L) (by rw [e1]; exact hb)
    ⟨Nat.le_trans hS.1 (by rw [e1]; exact hz), fun q h1 h2 => by rw [e1, hk q (Nat.lt_of_lt_of_le h1 hS.1) h2]; exact hS.2.1 q h1 h2, fun q hq => by
      rcases List.mem_append.mp hq with h | h
      · exact hS.2.2 q h
      · exact hL q h⟩ T' rfl X'
  exact ⟨t2, st t2 a1, b1⟩
theorem ct_gin {M : Nat} (hTs : ∀ w ∈ gc_WL, w ∈ Ts) (hcode : .code (ct_y M) (ct_mt M).2.1 (ct_mt M).2.2.1 none ∈ gc_WL) : GoodIn Ts (ct_ws M) := by
  intro w hw
  rcases List.mem_cons.mp hw with rfl | hw
  · exact gc_gi1 hTs hcode
  · exact gc_gi1 hTs hw
def ct_mok (M : Nat) : Bool := Nat.ble (ct_mt M).2.2.1 15 && plainName (ct_y M).cls && decide (gc_os M = (ct_y M).cls) && decide ((ct_y M).name = "<init>") && decide (gc_at (ct_mP.getD M 0) = some (.code (ct_y M) (ct_mt M).2.1 (ct_mt M).2.2.1 none)) && decide (decode (ct_mt M).2.1 (ct_mt M).2.2.2.1 = .ok (.return_, 1))
set_option maxRecDepth 100000 in
theorem ct_mok_all : ∀ M, M < 13 → ct_mok M = true := by decide +kernel
theorem ct_code {M : Nat} (h : M < 13) : .code (ct_y M) (ct_mt M).2.1 (ct_mt M).2.2.1 none ∈ gc_WL := by
  have h1 := ct_mok_all M h
  unfold ct_mok at h1
  simp only [Bool.and_eq_true, decide_eq_true_eq] at h1
  exact gc_wl h1.1.2 rfl
end CTS
