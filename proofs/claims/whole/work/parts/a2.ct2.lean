/-! constructors: worlds that grow -/
section CTL
variable {cs : Nat → ClassId} {ad : Nat → Nat} {D : va_G} {b0 : Nat}
theorem ct_l_at : ∀ (h : ct_H) (a j : Nat), (ct_l cs ad a h)[j]? = (h[j]?).map (fun c => (ad (a + j), ct_c cs ad c))
  | [], _, j => by simp [ct_l]
  | c :: r, a, 0 => rfl
  | c :: r, a, j + 1 => by
    show (ct_l cs ad (a + 1) r)[j]? = (r[j]?).map _
    rw [ct_l_at r (a + 1) j, show a + 1 + j = a + (j + 1) by omega]
theorem ct_l_set : ∀ (h : ct_H) (a j : Nat) (c : Nat × Nat × List Value), (ct_l cs ad a h).set j (ad (a + j), ct_c cs ad c) = ct_l cs ad a (h.set j c)
  | [], _, _, _ => rfl
  | c0 :: r, a, 0, c => rfl
  | c0 :: r, a, j + 1, c => by
    show (ad a, ct_c cs ad c0) :: (ct_l cs ad (a + 1) r).set j (ad (a + (j + 1)), ct_c cs ad c) = (ad a, ct_c cs ad c0) :: ct_l cs ad (a + 1) (r.set j c)
    rw [← ct_l_set r (a + 1) j c, show a + 1 + j = a + (j + 1) by omega]
theorem ct_l_app : ∀ (h : ct_H) (a : Nat) (c : Nat × Nat × List Value), ct_l cs ad a (h ++ [c]) = ct_l cs ad a h ++ [(ad (a + h.length), ct_c cs ad c)]
  | [], a, c => rfl
  | c0 :: r, a, c => by
    show (ad a, ct_c cs ad c0) :: ct_l cs ad (a + 1) (r ++ [c]) = (ad a, ct_c cs ad c0) :: (ct_l cs ad (a + 1) r ++ [(ad (a + (c0 :: r).length), ct_c cs ad c)])
    rw [ct_l_app r (a + 1) c, show a + 1 + r.length = a + (c0 :: r).length by rw [List.length_cons]; omega]
theorem ct_at0 {h : ct_H} {o : Nat} {c : Nat × Nat × List Value} (e : h[o]? = some c) : (ct_l cs ad 0 h)[o]? = some (ad o, ct_c cs ad c) := by
  rw [ct_l_at, e, Nat.zero_add]; rfl
theorem ct_set0 {h : ct_H} {o : Nat} {c : Nat × Nat × List Value} : (ct_l cs ad 0 h).set o (ad o, ct_c cs ad c) = ct_l cs ad 0 (h.set o c) := by
  have := ct_l_set (cs := cs) (ad := ad) h 0 o c
  rw [Nat.zero_add] at this; exact this
theorem ct_app0 {h : ct_H} {c : Nat × Nat × List Value} : ct_l cs ad 0 (h ++ [c]) = ct_l cs ad 0 h ++ [(ad h.length, ct_c cs ad c)] := by
  have := ct_l_app (cs := cs) (ad := ad) h 0 c
  rw [Nat.zero_add] at this; exact this
def ct_ad (ad : Nat → Nat) (b0 : Nat) : Prop := ∀ i, i < 1000 → ad i = b0 + i
theorem ct_lD (hA : ct_ad ad b0) {h : ct_H} (hl : h.length ≤ 1000) : va_D (gc_A b0) (ct_l cs ad 0 h) := by
  have key : ∀ (i : Nat) (p : Nat × va_E), (ct_l cs ad 0 h)[i]? = some p → i < h.length ∧ p.1 = b0 + i := by
    intro i p hi
    rw [ct_l_at] at hi
    cases e : h[i]? with
    | none => rw [e] at hi; cases hi
    | some c =>
      rw [e] at hi
      cases hi
      have hl2 := (List.getElem?_eq_some_iff.mp e).1
      refine ⟨hl2, ?_⟩
      show ad (0 + i) = b0 + i
      rw [Nat.zero_add]; exact hA i (by omega)
  refine ⟨fun i j p q hi hj e => ?_, fun k q hk => ?_⟩
  · have a := (key i p hi).2
    have b := (key j q hj).2
    omega
  · show b0 ≤ q.1
    rw [(key k q hk).2]; omega
theorem ct_set_g {l : List Value} {j i : Nat} {v : Value} : (ct_set l j v).getD i .null = if i = j then v else l.getD i .null := by
  unfold ct_set
  rw [List.getD_eq_getElem?_getD, List.getD_eq_getElem?_getD, List.getElem?_set]
  by_cases e : i = j
  · subst e
    rw [if_pos rfl, if_pos (by rw [List.length_append, List.length_replicate]; omega), if_pos rfl]
    rfl
  · rw [if_neg (fun z => e z.symm), if_neg e]
    by_cases hl : i < l.length
    · rw [List.getElem?_append_left hl]
    · rw [List.getElem?_append_right (by omega), List.getElem?_eq_none (l := l) (by omega)]
      by_cases h2 : i - l.length < j + 1 - l.length
      · rw [List.getElem?_replicate, if_pos h2]; rfl
      · rw [List.getElem?_eq_none (by rw [List.length_replicate]; omega)]
def ct_wd (D : va_G) (cs : Nat → ClassId) (ad : Nat → Nat) (b0 : Nat) (h : ct_H) (H : Heap) : Prop := h.length ≤ 1000 ∧ H.size = b0 + h.length ∧ va_P D vwCl (ct_l cs ad 0 h) H
/-- links of nest mates, casts, rows over classes, the empty string -/
def ct_N (ad : Nat → Nat) (U : State) : Prop := (∀ e ∈ ct_nl, va_Nw (.methodLinkNest (gc_os e.1) e.2.1 (ct_y e.2.2) RX11) U) ∧ (∀ c ∈ ct_cl, va_Nw (.castable (gc_os c) RX5) U) ∧ va_AO RX5 U ∧ va_AO RX2 U ∧ va_AO RX7 U ∧ vk_R RX2 27 "" (ad 1000) U
theorem ct_N.warm {s U : State} (h : ct_N ad s) (hW : s.WarmedH U.vm) : ct_N ad U := ⟨fun e he => (h.1 e he).warmM hW, fun c hc => (h.2.1 c hc).warmC hW, h.2.2.1.moved hW.alike, h.2.2.2.1.moved hW.alike, h.2.2.2.2.1.moved hW.alike, h.2.2.2.2.2.warm hW⟩
theorem ct_N.same {u U : State} (h : ct_N ad u) (hv : U.vm = u.vm) : ct_N ad U := by
  have ha : u.vm.Alike U.vm := by rw [hv]; exact Vm.Alike.refl _
  exact ⟨fun e he => (h.1 e he).same rfl hv.symm, fun c hc => (h.2.1 c hc).same rfl hv.symm, h.2.2.1.moved ha, h.2.2.2.1.moved ha, h.2.2.2.2.1.moved ha, h.2.2.2.2.2.same hv⟩
def ct_ws (M : Nat) : List Cond := .code (ct_y M) (ct_mt M).2.1 (ct_mt M).2.2.1 none :: gc_WL
abbrev ct_rm (d c z : Nat) : Room := { frames := d, cells := c, slots := z, locals := 40 * d }
def ct_G (cs : Nat → ClassId) (D : va_G) (ad : Nat → Nat) (b0 : Nat) (h : ct_H) (U : State) : Prop := ct_wd D cs ad b0 h U.heap ∧ va_K D vwCl (gc_ty cs) U ∧ ct_N ad U
def ct_Q (cs : Nat → ClassId) (D : va_G) (ad : Nat → Nat) (b0 : Nat) (h' : ct_H) : Array Value → State → Outcome → State → Prop := fun _ st oc t => oc = .returned none ∧ ct_wd D cs ad b0 h' t.heap ∧ va_F (gc_A b0) st t
def ct_Met (l : Launch) (cs : Nat → ClassId) (D : va_G) (ad : Nat → Nat) (b0 d : Nat) (C : Nat → List Value → ct_H → Option ct_H) : Prop :=
  ∀ (M : Nat) (a : List Value) (h h' : ct_H), M < 13 → C M a h = some h' → Met l (ct_y M) (ct_ws M) (ct_rm d (ct_nc M) (ct_ns M a)) (va_Pc (a.map (gc_tr ad)) (ct_G cs D ad b0 h)) (ct_Q cs D ad b0 h') (ct_nc M) (ct_ns M a) (gc_A b0)
theorem ct_blind {h : ct_H} {a : List Value} : FrameBlind (va_Pc a (ct_G cs D ad b0 h)) := by
  intro a' U g mk ⟨h1, h2, h3, h4⟩
  exact ⟨h1, h2, va_K.moved (u := U) (U := U.calling g mk a') (Vm.Alike.refl U.vm) h3, h4.same rfl⟩
end CTL
/-! the tables' own words -/
def ct_nok (e : Nat × Nat × Nat × Nat × Nat × Nat) : Bool := match vwCl[e.2.2.1]? with
  | none => false
  | some (C, _, N) => decide (gc_at e.2.2.2.1 = some (.classLink (gc_os e.1) e.2.1 C)) && decide (gc_at e.2.2.2.2.1 = some (.instantiable C N)) && decide (gc_at e.2.2.2.2.2 = some (.initialized C))
set_option maxRecDepth 100000 in
theorem ct_nok_all : ct_nT.all ct_nok = true := by decide +kernel
theorem ct_n_ok {k idx ci : Nat} (h : ct_n k idx = some ci) : ∃ C T N, vwCl[ci]? = some (C, T, N) ∧ .classLink (gc_os k) idx C ∈ gc_WL ∧ .instantiable C N ∈ gc_WL ∧ .initialized C ∈ gc_WL := by
  unfold ct_n at h
  cases hf : ct_nT.find? (fun e => Nat.beq e.1 k && Nat.beq e.2.1 idx) with
  | none => rw [hf] at h; cases h
  | some e =>
    rw [hf] at h
    have h1 := List.find?_some hf
    have h2 := List.all_eq_true.mp ct_nok_all e (List.mem_of_find?_eq_some hf)
    obtain ⟨k', idx', ci', p1, p2, p3⟩ := e
    simp only [Bool.and_eq_true] at h1
    obtain ⟨rfl, rfl⟩ : k' = k ∧ idx' = idx := ⟨Nat.eq_of_beq_eq_true h1.1, Nat.eq_of_beq_eq_true h1.2⟩
    obtain rfl : ci' = ci := Option.some.inj h
    unfold ct_nok at h2
    dsimp only at h2
    cases hv : vwCl[ci']? with
    | none => rw [hv] at h2; cases h2
    | some q =>
      obtain ⟨C, T, N⟩ := q
      rw [hv] at h2
      simp only [Bool.and_eq_true, decide_eq_true_eq] at h2
      exact ⟨C, T, N, rfl, gc_wl h2.1.1 rfl, gc_wl h2.1.2 rfl, gc_wl h2.2 rfl⟩
def ct_fok (e : Nat × Nat × Nat × Nat × Nat) : Bool := match vwCl[e.2.2.1]? with
  | none => false
  | some (_, T, N) => Nat.blt e.2.2.2.1 N && decide ((T e.2.2.2.1).1 = gc_os e.1) && decide (gc_at e.2.2.2.2 = some (.fieldLink (gc_os e.1) e.2.1 (T e.2.2.2.1).1 (T e.2.2.2.1).2.1 (T e.2.2.2.1).2.2.1)) && Nat.blt e.1 13
set_option maxRecDepth 100000 in
theorem ct_fok_all : ct_fT.all ct_fok = true := by decide +kernel
theorem ct_f_ok {k idx ci j : Nat} (h : ct_f k idx = some (ci, j)) : ∃ C T N, vwCl[ci]? = some (C, T, N) ∧ j < N ∧ (T j).1 = gc_os k ∧ .fieldLink (gc_os k) idx (T j).1 (T j).2.1 (T j).2.2.1 ∈ gc_WL ∧ k < 13 := by
  unfold ct_f at h
  cases hf : ct_fT.find? (fun e => Nat.beq e.1 k && Nat.beq e.2.1 idx) with
  | none => rw [hf] at h; cases h
  | some e =>
    rw [hf] at h
    have h1 := List.find?_some hf
    have h2 := List.all_eq_true.mp ct_fok_all e (List.mem_of_find?_eq_some hf)
    obtain ⟨k', idx', ci', j', p⟩ := e
    simp only [Bool.and_eq_true] at h1
    obtain ⟨rfl, rfl⟩ : k' = k ∧ idx' = idx := ⟨Nat.eq_of_beq_eq_true h1.1, Nat.eq_of_beq_eq_true h1.2⟩
    obtain ⟨rfl, rfl⟩ : ci = ci' ∧ j = j' := by
      have h3 : (ci', j') = (ci, j) := Option.some.inj h
      exact ⟨(Prod.mk.inj h3).1.symm, (Prod.mk.inj h3).2.symm⟩
    unfold ct_fok at h2
    dsimp only at h2
    cases hv : vwCl[ci]? with
    | none => rw [hv] at h2; cases h2
    | some q =>
      obtain ⟨C, T, N⟩ := q
      rw [hv] at h2
      simp only [Bool.and_eq_true, decide_eq_true_eq] at h2
      exact ⟨C, T, N, rfl, gc_blt h2.1.1.1, h2.1.1.2, gc_wl h2.1.2 rfl, gc_blt h2.2⟩
def ct_kok (e : Nat × Nat × Nat × Nat × Nat × Nat × Nat × Nat × Nat) : Bool := match e with
  | (k, idx, 0, _, _, p1, p2, p3, _) => decide (gc_at p1 = some (.methodLink (gc_os k) idx Lib.objectInit)) && decide (gc_at p2 = some (.instanceMethod Lib.objectInit)) && decide (gc_at p3 = some (.code Lib.objectInit ⟨#[0xb1]⟩ 1 none))
  | (k, idx, q + 1, M, n, p1, p2, _, p4) => Nat.blt M 13 && Nat.ble q 1 && (if q = 0 then decide (gc_at p1 = some (.methodLink (gc_os k) idx (ct_y M))) else ct_nl.contains (k, idx, M)) && decide (gc_at p2 = some (.instanceMethod (ct_y M))) && decide (gc_at p4 = some (.initialized (ct_y M).cls)) && gc_nmh (ct_y M).cls && gc_pn (ct_y M).desc n
set_option maxRecDepth 100000 in
theorem ct_kok_all : ct_kT.all ct_kok = true := by decide +kernel
theorem ct_k_ok {k idx q M n : Nat} (h : ct_k k idx = some (q, M, n)) : ∃ p1 p2 p3 p4, ct_kok (k, idx, q, M, n, p1, p2, p3, p4) = true := by
  unfold ct_k at h
  cases hf : ct_kT.find? (fun e => Nat.beq e.1 k && Nat.beq e.2.1 idx) with
  | none => rw [hf] at h; cases h
  | some e =>
    rw [hf] at h
    have h1 := List.find?_some hf
    have h2 := List.all_eq_true.mp ct_kok_all e (List.mem_of_find?_eq_some hf)
    obtain ⟨k', idx', q', M', n', p1, p2, p3, p4⟩ := e
    simp only [Bool.and_eq_true] at h1
    obtain ⟨rfl, rfl⟩ : k' = k ∧ idx' = idx := ⟨Nat.eq_of_beq_eq_true h1.1, Nat.eq_of_beq_eq_true h1.2⟩
    have h3 : (q', M', n') = (q, M, n) := Option.some.inj h
    cases h3
    exact ⟨p1, p2, p3, p4, h2⟩
theorem ct_iw : .arrayClass .int ∈ gc_WL := gc_wl (i := 1109) (by decide +kernel) rfl
theorem ct_bw : .arrayClass .boolean ∈ gc_WL := gc_wl (i := 2020) (by decide +kernel) rfl
def ct_bok (ci : Nat) (ty : Nat → FieldType) (N : Nat) : Bool := (List.range N).all (fun j => decide (defaultValue (ty j) = vp_V (ct_bT.getD ci []) j))
theorem ct_bok_at {ci N : Nat} {ty : Nat → FieldType} (h : ct_bok ci ty N = true) : ∀ j, j < N → defaultValue (ty j) = vp_V (ct_bT.getD ci []) j := fun j hj => of_decide_eq_true (List.all_eq_true.mp h j (List.mem_range.mpr hj))
theorem ct_bl {ad : Nat → Nat} : ∀ (l : List Value), l.all (fun v => match v with | .ref _ => false | _ => true) = true → l.map (gc_tr ad) = l
  | [], _ => rfl
  | v :: r, h => by
    rw [List.all_cons, Bool.and_eq_true] at h
    rw [List.map_cons, ct_bl r h.2]
    cases v <;> first | rfl | (cases h.1)
theorem ct_born {ci N : Nat} {C : String} {T : u_T} (h : vwCl[ci]? = some (C, T, N)) : (∃ ty : Nat → FieldType, (∀ k, k < N → parseFieldDescriptor (T k).2.2.1 = some (ty k)) ∧ ∀ j, j < N → defaultValue (ty j) = vp_V (ct_bT.getD ci []) j) ∧ ∀ ad : Nat → Nat, (ct_bT.getD ci []).map (gc_tr ad) = ct_bT.getD ci [] := by
  match ci, h with
  | 0, h => cases (show some (RX0, TX0, 15) = some (C, T, N) from h); exact ⟨⟨tyX0, tyX0_ok, ct_bok_at (by decide +kernel)⟩, fun ad => ct_bl _ (by decide +kernel)⟩
  | 1, h => cases (show some (RX1, TX1, 0) = some (C, T, N) from h); exact ⟨⟨tyX1, tyX1_ok, ct_bok_at (by decide +kernel)⟩, fun ad => ct_bl _ (by decide +kernel)⟩
  | 2, h => cases (show some (RX2, TX2, 5) = some (C, T, N) from h); exact ⟨⟨tyX2, tyX2_ok, ct_bok_at (by decide +kernel)⟩, fun ad => ct_bl _ (by decide +kernel)⟩
  | 3, h => cases (show some (RX3, TX3, 0) = some (C, T, N) from h); exact ⟨⟨tyX3, tyX3_ok, ct_bok_at (by decide +kernel)⟩, fun ad => ct_bl _ (by decide +kernel)⟩
  | 4, h => cases (show some (RX4, TX4, 0) = some (C, T, N) from h); exact ⟨⟨tyX4, tyX4_ok, ct_bok_at (by decide +kernel)⟩, fun ad => ct_bl _ (by decide +kernel)⟩
  | 5, h => cases (show some (RX5, TX5, 0) = some (C, T, N) from h); exact ⟨⟨tyX5, tyX5_ok, ct_bok_at (by decide +kernel)⟩, fun ad => ct_bl _ (by decide +kernel)⟩
  | 6, h => cases (show some (RX6, TX6, 0) = some (C, T, N) from h); exact ⟨⟨tyX6, tyX6_ok, ct_bok_at (by decide +kernel)⟩, fun ad => ct_bl _ (by decide +kernel)⟩
  | 7, h => cases (show some (RX7, TX7, 3) = some (C, T, N) from h); exact ⟨⟨tyX7, tyX7_ok, ct_bok_at (by decide +kernel)⟩, fun ad => ct_bl _ (by decide +kernel)⟩
  | 8, h => cases (show some (RX8, TX8, 0) = some (C, T, N) from h); exact ⟨⟨tyX8, tyX8_ok, ct_bok_at (by decide +kernel)⟩, fun ad => ct_bl _ (by decide +kernel)⟩
  | 9, h => cases (show some (RX9, TX9, 3) = some (C, T, N) from h); exact ⟨⟨tyX9, tyX9_ok, ct_bok_at (by decide +kernel)⟩, fun ad => ct_bl _ (by decide +kernel)⟩
  | 10, h => cases (show some (RX10, TX10, 0) = some (C, T, N) from h); exact ⟨⟨tyX10, tyX10_ok, ct_bok_at (by decide +kernel)⟩, fun ad => ct_bl _ (by decide +kernel)⟩
  | 11, h => cases (show some (RX11, TX11, 10) = some (C, T, N) from h); exact ⟨⟨tyX11, tyX11_ok, ct_bok_at (by decide +kernel)⟩, fun ad => ct_bl _ (by decide +kernel)⟩
  | 12, h => cases (show some (RX12, TX12, 28) = some (C, T, N) from h); exact ⟨⟨tyX12, tyX12_ok, ct_bok_at (by decide +kernel)⟩, fun ad => ct_bl _ (by decide +kernel)⟩
  | n + 13, h => cases (show none = some (C, T, N) from h)
