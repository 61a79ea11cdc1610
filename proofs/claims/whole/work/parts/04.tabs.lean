theorem gc_blt {a b : Nat} (h : Nat.blt a b = true) : a < b := Nat.le_of_ble_eq_true h
/-! the machine stands behind the abstract machine -/
def gc_tr (ad : Nat → Nat) : Value → Value
  | .ref o => .ref (ad o)
  | v => v
theorem gc_trc (ad : Nat → Nat) (v : Value) : (gc_tr ad v).category = v.category := by cases v <;> rfl
abbrev gc_A (b0 : Nat) : Nat → Prop := fun q => b0 ≤ q
def gc_ent (cs : Nat → ClassId) (ad : Nat → Nat) (μ : gM) (o : Nat) : Nat × va_E := (ad o,
  if gc_kd o < 20 then .inr (gc_kd o, (List.range (gc_o o).2.length).map (fun j => gc_tr ad (gc_fv o j μ)))
  else if gc_kd o < 22 then .inl (cs (gc_kd o - 20), gc_al o, .inl (μ o))
  else .inl (cs (gc_kd o - 20), gc_al o, .inr (.inr (.inr (.inr (fun j => some (ad (gc_ra o j))))))))
def gc_w (cs : Nat → ClassId) (ad : Nat → Nat) (μ : gM) : va_W := (List.range 102).map (gc_ent cs ad μ)
def gc_ty (cs : Nat → ClassId) : List (ClassId × FieldType) := [(cs 0, .int), (cs 1, .boolean), (cs 2, .object "GreatCambric$Mourner"), (cs 3, .object "GreatCambric$Law"), (cs 4, .object "GreatCambric$Row")]
def gc_ad (ad : Nat → Nat) (b0 : Nat) : Prop := (∀ i j, i < 102 → j < 102 → ad i = ad j → i = j) ∧ ∀ i, i < 102 → b0 ≤ ad i
theorem gc_w_at {cs : Nat → ClassId} {ad : Nat → Nat} {μ : gM} {o : Nat} (h : o < 102) : (gc_w cs ad μ)[o]? = some (gc_ent cs ad μ o) := by
  simp [gc_w, h]
theorem gc_w_in {cs : Nat → ClassId} {ad : Nat → Nat} {μ : gM} {o : Nat} {q : Nat × va_E} (h : (gc_w cs ad μ)[o]? = some q) : o < 102 ∧ q = gc_ent cs ad μ o := by
  have hl : o < 102 := by
    have := (List.getElem?_eq_some_iff.mp h).1
    simpa [gc_w] using this
  rw [gc_w_at hl] at h
  exact ⟨hl, (Option.some.inj h).symm⟩
theorem gc_wD {cs : Nat → ClassId} {ad : Nat → Nat} {b0 : Nat} (had : gc_ad ad b0) (μ : gM) : va_D (gc_A b0) (gc_w cs ad μ) := by
  refine ⟨fun i j p q hi hj e => ?_, fun k q hk => ?_⟩
  · obtain ⟨h1, rfl⟩ := gc_w_in hi
    obtain ⟨h2, rfl⟩ := gc_w_in hj
    exact had.1 i j h1 h2 e
  · obtain ⟨h1, rfl⟩ := gc_w_in hk
    exact had.2 k h1
theorem gc_fvc {o j : Nat} {μ μ' : gM} (h : μ' o = μ o) : gc_fv o j μ' = gc_fv o j μ := by
  unfold gc_fv; rw [h]
theorem gc_entc {cs : Nat → ClassId} {ad : Nat → Nat} {μ μ' : gM} {o : Nat} (h : μ' o = μ o) : gc_ent cs ad μ' o = gc_ent cs ad μ o := by
  unfold gc_ent
  simp only [gc_fvc h, h]
theorem gc_w_set {cs : Nat → ClassId} {ad : Nat → Nat} {μ μ' : gM} {o : Nat} {q : Nat × va_E} (h : o < 102) (e : gc_ent cs ad μ' o = q) (hne : ∀ o', o' ≠ o → μ' o' = μ o') : (gc_w cs ad μ).set o q = gc_w cs ad μ' := by
  apply List.ext_getElem?
  intro i
  rw [List.getElem?_set]
  by_cases hi : o = i
  · subst hi
    rw [if_pos rfl, gc_w_at h, e, if_pos (by simpa [gc_w] using h)]
  · rw [if_neg hi]
    by_cases h2 : i < 102
    · rw [gc_w_at h2, gc_w_at h2, gc_entc (hne i (fun z => hi z.symm))]
    · rw [List.getElem?_eq_none (by simp [gc_w]; omega), List.getElem?_eq_none (by simp [gc_w]; omega)]
theorem gc_up_ne {μ : gM} {o j o' : Nat} {x : Int32} (h : o' ≠ o) : gc_up μ o j x o' = μ o' := if_neg h
theorem gc_up_eq {μ : gM} {o j : Nat} {x : Int32} : gc_up μ o j x o = upd (μ o) j x := if_pos rfl
theorem gc_k110 : ∀ o, o < 110 → gc_kd o < 25 → o < 102 := by decide +kernel
theorem gc_k99 {o : Nat} (h : ¬ o < 110) : gc_kd o = 99 := by
  have : gc_oT.length = 110 := by decide +kernel
  unfold gc_kd gc_o
  rw [List.getD_eq_getElem?_getD, List.getElem?_eq_none (by omega)]
  rfl
theorem gc_k25 {o : Nat} (h : gc_kd o < 25) : o < 102 := by
  by_cases h2 : o < 110
  · exact gc_k110 o h2 h
  · rw [gc_k99 h2] at h; omega
theorem gc_k13 : ∀ o, o < 102 → gc_kd o < 20 → gc_kd o < 13 ∧ (vwCl[gc_kd o]?).map (fun q => q.2.2) = some (gc_o o).2.length := by decide +kernel
def gc_dk (ci j c : Nat) : Bool := match vwCl[ci]? with
  | none => false
  | some (_, T, _) => match c with
    | 0 => !(T j).2.2.2 && (decide (parseFieldDescriptor (T j).2.2.1 = some .int) || (Nat.beq ci 12 && Nat.beq j 10 && decide (parseFieldDescriptor (T j).2.2.1 = some .boolean)))
    | 1 => !(T j).2.2.2 && (match parseFieldDescriptor (T j).2.2.1 with | some (.object _) => true | _ => false)
    | _ => true
theorem gc_dks : ∀ o, o < 102 → gc_kd o < 20 → ∀ j, j < (gc_o o).2.length → gc_dk (gc_kd o) j (gc_fk o j) = true := by decide +kernel
theorem gc_wl {i : Nat} {w : Cond} (h : gc_at i = some w) (g : goodWord w = true) : w ∈ gc_WL := List.mem_filter.mpr ⟨gc_at_in h, g⟩
theorem gc_wls {l : List Cond} {ps : List Nat} (h : l = ps.filterMap gc_at) (g : l.all goodWord = true) : ∀ w ∈ l, w ∈ gc_WL := by
  intro w hw
  have hg := List.all_eq_true.mp g w hw
  rw [h] at hw
  obtain ⟨i, -, hi⟩ := List.mem_filterMap.mp hw
  exact gc_wl hi hg
theorem gc_uw0 : ∀ w ∈ u_ws RX0 TX0 15, w ∈ gc_WL := gc_wls (ps := gc_uP.getD 0 []) (by decide +kernel) (by decide +kernel)
theorem gc_uw1 : ∀ w ∈ u_ws RX1 TX1 0, w ∈ gc_WL := gc_wls (ps := gc_uP.getD 1 []) (by decide +kernel) (by decide +kernel)
theorem gc_uw2 : ∀ w ∈ u_ws RX2 TX2 5, w ∈ gc_WL := gc_wls (ps := gc_uP.getD 2 []) (by decide +kernel) (by decide +kernel)
theorem gc_uw3 : ∀ w ∈ u_ws RX3 TX3 0, w ∈ gc_WL := gc_wls (ps := gc_uP.getD 3 []) (by decide +kernel) (by decide +kernel)
theorem gc_uw4 : ∀ w ∈ u_ws RX4 TX4 0, w ∈ gc_WL := gc_wls (ps := gc_uP.getD 4 []) (by decide +kernel) (by decide +kernel)
theorem gc_uw5 : ∀ w ∈ u_ws RX5 TX5 0, w ∈ gc_WL := gc_wls (ps := gc_uP.getD 5 []) (by decide +kernel) (by decide +kernel)
theorem gc_uw6 : ∀ w ∈ u_ws RX6 TX6 0, w ∈ gc_WL := gc_wls (ps := gc_uP.getD 6 []) (by decide +kernel) (by decide +kernel)
theorem gc_uw7 : ∀ w ∈ u_ws RX7 TX7 3, w ∈ gc_WL := gc_wls (ps := gc_uP.getD 7 []) (by decide +kernel) (by decide +kernel)
theorem gc_uw8 : ∀ w ∈ u_ws RX8 TX8 0, w ∈ gc_WL := gc_wls (ps := gc_uP.getD 8 []) (by decide +kernel) (by decide +kernel)
theorem gc_uw9 : ∀ w ∈ u_ws RX9 TX9 3, w ∈ gc_WL := gc_wls (ps := gc_uP.getD 9 []) (by decide +kernel) (by decide +kernel)
theorem gc_uw10 : ∀ w ∈ u_ws RX10 TX10 0, w ∈ gc_WL := gc_wls (ps := gc_uP.getD 10 []) (by decide +kernel) (by decide +kernel)
theorem gc_uw11 : ∀ w ∈ u_ws RX11 TX11 10, w ∈ gc_WL := gc_wls (ps := gc_uP.getD 11 []) (by decide +kernel) (by decide +kernel)
theorem gc_uw12 : ∀ w ∈ u_ws RX12 TX12 28, w ∈ gc_WL := gc_wls (ps := gc_uP.getD 12 []) (by decide +kernel) (by decide +kernel)
theorem gc_cls {ci N : Nat} {C : String} {T : u_T} (h : vwCl[ci]? = some (C, T, N)) : (∀ w ∈ u_ws C T N, w ∈ gc_WL) ∧ (∃ ty : Nat → FieldType, ∀ k, k < N → parseFieldDescriptor (T k).2.2.1 = some (ty k)) ∧ (∀ a, a < N → ∀ b, b < N → a ≠ b → (T a).2.1 ≠ (T b).2.1) := by
  match ci, h with
  | 0, h => cases (show some (RX0, TX0, 15) = some (C, T, N) from h); exact ⟨gc_uw0, ⟨tyX0, tyX0_ok⟩, nmX0⟩
  | 1, h => cases (show some (RX1, TX1, 0) = some (C, T, N) from h); exact ⟨gc_uw1, ⟨tyX1, tyX1_ok⟩, nmX1⟩
  | 2, h => cases (show some (RX2, TX2, 5) = some (C, T, N) from h); exact ⟨gc_uw2, ⟨tyX2, tyX2_ok⟩, nmX2⟩
  | 3, h => cases (show some (RX3, TX3, 0) = some (C, T, N) from h); exact ⟨gc_uw3, ⟨tyX3, tyX3_ok⟩, nmX3⟩
  | 4, h => cases (show some (RX4, TX4, 0) = some (C, T, N) from h); exact ⟨gc_uw4, ⟨tyX4, tyX4_ok⟩, nmX4⟩
  | 5, h => cases (show some (RX5, TX5, 0) = some (C, T, N) from h); exact ⟨gc_uw5, ⟨tyX5, tyX5_ok⟩, nmX5⟩
  | 6, h => cases (show some (RX6, TX6, 0) = some (C, T, N) from h); exact ⟨gc_uw6, ⟨tyX6, tyX6_ok⟩, nmX6⟩
  | 7, h => cases (show some (RX7, TX7, 3) = some (C, T, N) from h); exact ⟨gc_uw7, ⟨tyX7, tyX7_ok⟩, nmX7⟩
  | 8, h => cases (show some (RX8, TX8, 0) = some (C, T, N) from h); exact ⟨gc_uw8, ⟨tyX8, tyX8_ok⟩, nmX8⟩
  | 9, h => cases (show some (RX9, TX9, 3) = some (C, T, N) from h); exact ⟨gc_uw9, ⟨tyX9, tyX9_ok⟩, nmX9⟩
  | 10, h => cases (show some (RX10, TX10, 0) = some (C, T, N) from h); exact ⟨gc_uw10, ⟨tyX10, tyX10_ok⟩, nmX10⟩
  | 11, h => cases (show some (RX11, TX11, 10) = some (C, T, N) from h); exact ⟨gc_uw11, ⟨tyX11, tyX11_ok⟩, nmX11⟩
  | 12, h => cases (show some (RX12, TX12, 28) = some (C, T, N) from h); exact ⟨gc_uw12, ⟨tyX12, tyX12_ok⟩, nmX12⟩
  | n + 13, h => cases (show none = some (C, T, N) from h)
/-- the tables' own words -/
def gc_fok (e : Nat × Nat × Nat × Nat × Nat) : Bool := match vwCl[e.2.2.1]? with
  | none => false
  | some (_, T, N) => Nat.blt e.2.2.2.1 N && decide (gc_at e.2.2.2.2 = some (.fieldLink (gc_os e.1) e.2.1 (T e.2.2.2.1).1 (T e.2.2.2.1).2.1 (T e.2.2.2.1).2.2.1))
set_option maxRecDepth 100000 in
theorem gc_fok_all : gc_fT.all gc_fok = true := by decide +kernel
theorem gc_f_ok {k idx ci j : Nat} (h : gc_f k idx = some (ci, j)) : ∃ C T N, vwCl[ci]? = some (C, T, N) ∧ j < N ∧ .fieldLink (gc_os k) idx (T j).1 (T j).2.1 (T j).2.2.1 ∈ gc_WL := by
  unfold gc_f at h
  cases hf : gc_fT.find? (fun e => Nat.beq e.1 k && Nat.beq e.2.1 idx) with
  | none => rw [hf] at h; cases h
  | some e =>
    rw [hf] at h
    have h1 := List.find?_some hf
    have h2 := List.all_eq_true.mp gc_fok_all e (List.mem_of_find?_eq_some hf)
    obtain ⟨k', idx', ci', j', p⟩ := e
    simp only [Bool.and_eq_true] at h1
    obtain ⟨rfl, rfl⟩ : k' = k ∧ idx' = idx := ⟨Nat.eq_of_beq_eq_true h1.1, Nat.eq_of_beq_eq_true h1.2⟩
    obtain ⟨rfl, rfl⟩ : ci = ci' ∧ j = j' := by
      have h3 : (ci', j') = (ci, j) := Option.some.inj h
      exact ⟨(Prod.mk.inj h3).1.symm, (Prod.mk.inj h3).2.symm⟩
    unfold gc_fok at h2
    dsimp only at h2
    cases hv : vwCl[ci]? with
    | none => rw [hv] at h2; cases h2
    | some q =>
      obtain ⟨C, T, N⟩ := q
      rw [hv] at h2
      simp only [Bool.and_eq_true, decide_eq_true_eq] at h2
      exact ⟨C, T, N, rfl, gc_blt h2.1, gc_wl h2.2 rfl⟩
def gc_rtok (b : Nat) (rt : Option FieldType) : Bool := match b with
  | 0 => decide (rt = some .int)
  | 1 => decide (rt = some .boolean) || decide (rt = some .byte)
  | 2 => decide (rt = none)
  | 3 => match rt with | some (.object _) => true | _ => false
  | _ => false
def gc_mok (M : Nat) : Bool := Nat.ble (gc_m M).2.2.1 15 && plainName (gc_m M).1.cls && decide (gc_os (gc_m M).2.2.2.2.1 = (gc_m M).1.cls) && gc_rtok (gc_m M).2.2.2.2.2 (gc_m M).2.2.2.1 && decide (gc_at (gc_mP.getD M 0) = some (.code (gc_m M).1 (gc_m M).2.1 (gc_m M).2.2.1 (gc_m M).2.2.2.1))
set_option maxRecDepth 100000 in
theorem gc_mok_0 : (List.range' 0 50).all gc_mok = true := by decide +kernel
set_option maxRecDepth 100000 in
theorem gc_mok_1 : (List.range' 50 50).all gc_mok = true := by decide +kernel
set_option maxRecDepth 100000 in
theorem gc_mok_2 : (List.range' 100 50).all gc_mok = true := by decide +kernel
set_option maxRecDepth 100000 in
theorem gc_mok_3 : (List.range' 150 50).all gc_mok = true := by decide +kernel
set_option maxRecDepth 100000 in
theorem gc_mok_4 : (List.range' 200 17).all gc_mok = true := by decide +kernel
set_option maxRecDepth 100000 in
theorem gc_mok_5 : (List.range' 217 17).all gc_mok = true := by decide +kernel
set_option maxRecDepth 100000 in
theorem gc_mok_6 : (List.range' 234 18).all gc_mok = true := by decide +kernel
abbrev gc_E : Type := Nat × Nat × Nat × Nat × Nat × Nat × Nat × String × MethodName × List Nat
def gc_cwd (e : gc_E) : List Cond := match e with
  | (k, idx, rc, kind, M, _, _, ow, x, _) => match kind with
    | 0 => [.methodLink (gc_os k) idx (gc_m M).1, .static (gc_m M).1, .initialized (gc_m M).1.cls]
    | 1 => [.methodLink (gc_os k) idx (gc_m M).1, .instanceMethod (gc_m M).1, .selects (gc_os rc) (gc_m M).1 (gc_m M).1, .initialized (gc_os rc)]
    | 2 => [.methodLink (gc_os k) idx x, .sameMethod x.cls ow x.name x.desc, .selects (gc_os rc) x (gc_m M).1, .instanceMethod (gc_m M).1, .initialized (gc_m M).1.cls]
    | 3 => [.methodLink (gc_os k) idx x, .sameMethod x.cls ow x.name x.desc, .instanceMethod ⟨ow, x.name, x.desc⟩, .selects (gc_os rc) x (gc_m M).1, .instanceMethod (gc_m M).1, .initialized (gc_m M).1.cls]
    | 6 => [.methodLink (gc_os k) idx x, .sameMethod x.cls ow x.name x.desc, .superclass (gc_os k) x.cls, .superclass x.cls ow, .instanceMethod (gc_m M).1, .initialized (gc_m M).1.cls]
    | _ => [.methodLink (gc_os k) idx (gc_m M).1, .sameMethod (gc_m M).1.cls (gc_m M).1.cls (gc_m M).1.name (gc_m M).1.desc, .superclass (gc_os k) (gc_m M).1.cls, .instanceMethod (gc_m M).1, .initialized (gc_m M).1.cls]
def gc_nmh (s : String) : Bool := decide (s ≠ "java/lang/invoke/MethodHandle") && decide (s ≠ "java/lang/invoke/VarHandle")
def gc_pn (s : String) (n : Nat) : Bool := decide ((parseMethodDescriptor s).map (fun d => d.parameters.length) = some n)
def gc_cok (e : gc_E) : Bool := match e with
  | (_, _, rc, kind, M, n, M0, ow, x, ps) => decide (gc_cwd e = ps.filterMap gc_at) && (gc_cwd e).all goodWord && Nat.blt M 252 && Nat.blt M0 252 && gc_nmh (gc_m M).1.cls && Nat.beq (gc_n e.1 e.2.1) n && (match kind with
    | 0 => gc_pn (gc_m M).1.desc n && Nat.beq rc 97
    | 1 => gc_pn (gc_m M).1.desc n && (Nat.blt rc 13 || Nat.beq rc 15) && decide ((gc_m M).1.cls = gc_os rc)
    | 2 => gc_pn x.desc n && decide ((gc_m M).1 = ⟨ow, x.name, x.desc⟩) && gc_nmh ow && Nat.blt rc 13
    | 3 => gc_pn x.desc n && decide ((gc_m M0).1 = ⟨ow, x.name, x.desc⟩) && gc_nmh ow && Nat.blt rc 13
    | 4 => gc_pn (gc_m M).1.desc n && decide ((gc_m M).1.name ≠ "<init>") && Nat.beq rc 98
    | 6 => gc_pn x.desc n && decide ((gc_m M).1 = ⟨ow, x.name, x.desc⟩) && decide (x.name ≠ "<init>") && Nat.beq rc 98
    | _ => false)
set_option maxRecDepth 100000 in
theorem gc_cok_1 : gc_cT1.all gc_cok = true := by decide +kernel
set_option maxRecDepth 100000 in
theorem gc_cok_2 : gc_cT2.all gc_cok = true := by decide +kernel
set_option maxRecDepth 100000 in
theorem gc_cok_3 : gc_cT3.all gc_cok = true := by decide +kernel
set_option maxRecDepth 100000 in
theorem gc_cok_4 : gc_cT4.all gc_cok = true := by decide +kernel
set_option maxRecDepth 100000 in
theorem gc_cok_5 : gc_cT5.all gc_cok = true := by decide +kernel
set_option maxRecDepth 100000 in
theorem gc_cok_6 : gc_cT6.all gc_cok = true := by decide +kernel
set_option maxRecDepth 100000 in
theorem gc_cok_7 : gc_cT7.all gc_cok = true := by decide +kernel
set_option maxRecDepth 100000 in
theorem gc_cok_8 : gc_cT8.all gc_cok = true := by decide +kernel
set_option maxRecDepth 100000 in
theorem gc_cok_9 : gc_cT9.all gc_cok = true := by decide +kernel
theorem gc_cok_all : gc_cT.all gc_cok = true := by
  unfold gc_cT
  simp only [List.all_append, gc_cok_1, gc_cok_2, gc_cok_3, gc_cok_4, gc_cok_5, gc_cok_6, gc_cok_7, gc_cok_8, gc_cok_9, Bool.and_self]
def gc_kok (e : Nat × Nat × Int32 × Nat) : Bool := decide (gc_at e.2.2.2 = some (.constant (gc_os e.1) e.2.1 e.2.2.1))
set_option maxRecDepth 100000 in
theorem gc_kok_all : gc_kT.all gc_kok = true := by decide +kernel
def gc_lok (e : Nat × Nat × Int64 × Nat) : Bool := decide (gc_at e.2.2.2 = some (.constantLong (gc_os e.1) e.2.1 e.2.2.1))
set_option maxRecDepth 100000 in
theorem gc_lok_all : gc_lT.all gc_lok = true := by decide +kernel
theorem gc_k_ok {k idx : Nat} {v : Int32} (h : gc_k k idx = some v) : .constant (gc_os k) idx v ∈ gc_WL := by
  unfold gc_k at h
  cases hf : gc_kT.find? (fun e => Nat.beq e.1 k && Nat.beq e.2.1 idx) with
  | none => rw [hf] at h; cases h
  | some e =>
    rw [hf] at h
    have h1 := List.find?_some hf
    have h2 := List.all_eq_true.mp gc_kok_all e (List.mem_of_find?_eq_some hf)
    obtain ⟨k', idx', v', p⟩ := e
    simp only [Bool.and_eq_true] at h1
    cases Nat.eq_of_beq_eq_true h1.1
    cases Nat.eq_of_beq_eq_true h1.2
    cases h
    exact gc_wl (of_decide_eq_true h2) rfl
theorem gc_l_ok {k idx : Nat} {v : Int64} (h : gc_l k idx = some v) : .constantLong (gc_os k) idx v ∈ gc_WL := by
  unfold gc_l at h
  cases hf : gc_lT.find? (fun e => Nat.beq e.1 k && Nat.beq e.2.1 idx) with
  | none => rw [hf] at h; cases h
  | some e =>
    rw [hf] at h
    have h1 := List.find?_some hf
    have h2 := List.all_eq_true.mp gc_lok_all e (List.mem_of_find?_eq_some hf)
    obtain ⟨k', idx', v', p⟩ := e
    simp only [Bool.and_eq_true] at h1
    cases Nat.eq_of_beq_eq_true h1.1
    cases Nat.eq_of_beq_eq_true h1.2
    cases h
    exact gc_wl (of_decide_eq_true h2) rfl
theorem gc_c_ok {k idx rc kind M : Nat} (h : gc_c k idx rc = some (kind, M)) : ∃ (n M0 : Nat) (ow : String) (x : MethodName) (ps : List Nat), gc_cok (k, idx, rc, kind, M, n, M0, ow, x, ps) = true := by
  unfold gc_c at h
  cases hf : gc_cT.find? (fun e => Nat.beq e.1 k && Nat.beq e.2.1 idx && Nat.beq e.2.2.1 rc) with
  | none => rw [hf] at h; cases h
  | some e =>
    rw [hf] at h
    have h1 := List.find?_some hf
    have h2 := List.all_eq_true.mp gc_cok_all e (List.mem_of_find?_eq_some hf)
    obtain ⟨k', idx', rc', kind', M', n, M0, ow, x, ps⟩ := e
    simp only [Bool.and_eq_true] at h1
    cases Nat.eq_of_beq_eq_true h1.1.1
    cases Nat.eq_of_beq_eq_true h1.1.2
    cases Nat.eq_of_beq_eq_true h1.2
    cases h
    exact ⟨n, M0, ow, x, ps, h2⟩
def gc_sn (z : Nat) : MethodName := match z with | 1 => arraycopyName | 2 => Lib.Math.max.name | _ => Lib.Math.min.name
def gc_sokc (e : Nat × Nat × Nat × Nat) : Bool := decide (gc_at e.2.2.2 = some (.methodLink (gc_os e.1) e.2.1 (gc_sn e.2.2.1)))
set_option maxRecDepth 100000 in
theorem gc_sok_all : gc_sT.all gc_sokc = true := by decide +kernel
theorem gc_s_ok {k idx z : Nat} (h : gc_s k idx = z) (hz : z ≠ 0) : .methodLink (gc_os k) idx (gc_sn z) ∈ gc_WL := by
  unfold gc_s at h
  cases hf : gc_sT.find? (fun e => Nat.beq e.1 k && Nat.beq e.2.1 idx) with
  | none => rw [hf] at h; exact absurd h.symm hz
  | some e =>
    rw [hf] at h
    have h1 := List.find?_some hf
    have h2 := List.all_eq_true.mp gc_sok_all e (List.mem_of_find?_eq_some hf)
    obtain ⟨k', idx', v', p⟩ := e
    simp only [Bool.and_eq_true] at h1
    cases Nat.eq_of_beq_eq_true h1.1
    cases Nat.eq_of_beq_eq_true h1.2
    cases (show v' = z from h)
    exact gc_wl (of_decide_eq_true h2) rfl
def gc_ws (M : Nat) : List Cond := .code (gc_m M).1 (gc_m M).2.1 (gc_m M).2.2.1 (gc_m M).2.2.2.1 :: gc_WL
theorem gc_m_ok {M : Nat} (h : M < 252) : gc_mok M = true := by
  rcases (show M < 50 ∨ (50 ≤ M ∧ M < 100) ∨ (100 ≤ M ∧ M < 150) ∨ (150 ≤ M ∧ M < 200) ∨ (200 ≤ M ∧ M < 217) ∨ (217 ≤ M ∧ M < 234) ∨ (234 ≤ M ∧ M < 252) by omega) with h | h | h | h | h | h | h
  · exact List.all_eq_true.mp gc_mok_0 M (by simp [List.mem_range'_1]; omega)
  · exact List.all_eq_true.mp gc_mok_1 M (by simp [List.mem_range'_1]; omega)
  · exact List.all_eq_true.mp gc_mok_2 M (by simp [List.mem_range'_1]; omega)
  · exact List.all_eq_true.mp gc_mok_3 M (by simp [List.mem_range'_1]; omega)
  · exact List.all_eq_true.mp gc_mok_4 M (by simp [List.mem_range'_1]; omega)
  · exact List.all_eq_true.mp gc_mok_5 M (by simp [List.mem_range'_1]; omega)
  · exact List.all_eq_true.mp gc_mok_6 M (by simp [List.mem_range'_1]; omega)
theorem gc_m_code {M : Nat} (h : M < 252) : .code (gc_m M).1 (gc_m M).2.1 (gc_m M).2.2.1 (gc_m M).2.2.2.1 ∈ gc_WL := by
  have h1 := gc_m_ok h
  unfold gc_mok at h1
  simp only [Bool.and_eq_true, decide_eq_true_eq] at h1
  exact gc_wl h1.2 rfl
theorem gc_gi1 {Ts : List Cond} (hTs : ∀ w ∈ gc_WL, w ∈ Ts) {w : Cond} (h : w ∈ gc_WL) : w ∈ Ts ∧ ((w.onTables && w.keeps) = true ∨ ∃ ty, w = .arrayClass ty) := ⟨hTs w h, good_of_word (List.mem_filter.mp h).2⟩
theorem gc_gin {Ts : List Cond} (hTs : ∀ w ∈ gc_WL, w ∈ Ts) {M : Nat} (h : M < 252) : GoodIn Ts (gc_ws M) := by
  intro w hw
  rcases List.mem_cons.mp hw with rfl | hw
  · exact gc_gi1 hTs (gc_m_code h)
  · exact gc_gi1 hTs hw
theorem gc_gic {Ts : List Cond} (hTs : ∀ w ∈ gc_WL, w ∈ Ts) {M : Nat} (h : M < 252) {l ps : List Cond} (hl : ∀ w ∈ l, w ∈ gc_WL) : GoodIn Ts (l ++ gc_ws M) := by
  intro w hw
  rcases List.mem_append.mp hw with hw | hw
  · exact gc_gi1 hTs (hl w hw)
  · exact gc_gin hTs h w hw
