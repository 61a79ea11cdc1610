/-- the locals -/
def gc_ok : Value → Bool | .retAddr _ => false | _ => true
def gc_LR (ad : Nat → Nat) (nL : Nat) (ls : Array Slot) (L : List Value) : Prop := L.length = nL ∧ (∀ (j : Nat) (v : Value), L[j]? = some v → v.category = 2 → L[j + 1]? = some (.retAddr 1)) ∧ ∃ l : List (Nat × Value), lv_has ls nL l ∧ ∀ (j : Nat) (v : Value), L[j]? = some v → gc_ok v = true → (j, gc_tr ad v) ∈ l
theorem gc_LR.at {ad : Nat → Nat} {nL : Nat} {ls : Array Slot} {L : List Value} (h : gc_LR ad nL ls L) {j : Nat} {v : Value} (hj : L[j]? = some v) (hv : gc_ok v = true) : ls[j]? = some (.val (gc_tr ad v)) := by
  obtain ⟨-, -, l, h1, h2⟩ := h
  exact h1.2.2 (j, gc_tr ad v) (h2 j v hj hv)
theorem gc_LR.lt {ad : Nat → Nat} {nL : Nat} {ls : Array Slot} {L : List Value} (h : gc_LR ad nL ls L) {j : Nat} {v : Value} (hj : L[j]? = some v) : j < nL := by
  rw [← h.1]; exact (List.getElem?_eq_some_iff.mp hj).1
/-- behind a store of one word -/
theorem gc_LR.set {ad : Nat → Nat} {nL : Nat} {ls ls' : Array Slot} {L : List Value} {i : Nat} {v w : Value} {l : List (Nat × Value)} (h : L.length = nL ∧ ∀ (j : Nat) (v : Value), L[j]? = some v → v.category = 2 → L[j + 1]? = some (.retAddr 1)) (h2 : ∀ (j : Nat) (v : Value), L[j]? = some v → gc_ok v = true → (j, gc_tr ad v) ∈ l) (hi : L[i]? = some v) (hv : gc_sk v = true) (hw : w.category = 1)
    (h' : lv_has ls' nL ((i, gc_tr ad w) :: l.filter (fun q => !(q.1 == i) && !(q.1 + 1 == i && q.2.category == 2)))) : gc_LR ad nL ls' (L.set i w) := by
  have hl := (List.getElem?_eq_some_iff.mp hi).1
  have hn1 : v ≠ .retAddr 1 := by intro e; subst e; cases hv
  have hn2 : v.category = 1 := by cases v <;> first | rfl | cases hv
  refine ⟨by rw [List.length_set]; exact h.1, fun j u hj hu => ?_, _, h', fun j u hj hu => ?_⟩
  · by_cases e : i = j
    · subst e
      rw [List.getElem?_set_self hl] at hj
      cases hj
      rw [hw] at hu; cases hu
    · rw [List.getElem?_set_ne e] at hj
      have h3 := h.2 j u hj hu
      by_cases e2 : i = j + 1
      · subst e2
        rw [hi] at h3
        exact absurd (Option.some.inj h3) hn1
      · rw [List.getElem?_set_ne e2]; exact h3
  · by_cases e : i = j
    · subst e
      rw [List.getElem?_set_self hl] at hj
      cases hj
      exact List.mem_cons_self
    · rw [List.getElem?_set_ne e] at hj
      refine List.mem_cons_of_mem _ (List.mem_filter.mpr ⟨h2 j u hj hu, ?_⟩)
      have e1 : (j == i) = false := by simp; exact fun z => e z.symm
      simp only [e1, Bool.not_false, Bool.true_and]
      by_cases e2 : i = j + 1
      · have : (gc_tr ad u).category ≠ 2 := by
          rw [gc_trc]
          intro z
          have h3 := h.2 j u hj z
          rw [← e2, hi] at h3
          exact hn1 (Option.some.inj h3)
        have e3 : ((gc_tr ad u).category == 2) = false := by simp [this]
        simp [e3]
      · have e3 : (j + 1 == i) = false := by simp; omega
        simp [e3]
theorem gc_en_at {ad : Nat → Nat} : ∀ (a : List Value) (i0 j : Nat) (v : Value), (gc_en a)[j]? = some v → gc_ok v = true → (i0 + j, gc_tr ad v) ∈ lv_args i0 (a.map (gc_tr ad))
  | [], _, j, v, h, _ => by simp [gc_en] at h
  | w :: r, i0, j, v, h, hv => by
    unfold gc_en at h
    show _ ∈ (i0, gc_tr ad w) :: lv_args (if (gc_tr ad w).category = 2 then i0 + 2 else i0 + 1) (r.map (gc_tr ad))
    rw [gc_trc]
    by_cases hc : w.category = 2
    · rw [if_pos hc] at h ⊢
      match j, h with
      | 0, h => cases h; exact List.mem_cons_self
      | 1, h => cases h; cases hv
      | j + 2, h =>
        refine List.mem_cons_of_mem _ ?_
        have := gc_en_at (ad := ad) r (i0 + 2) j v h hv
        rwa [show i0 + 2 + j = i0 + (j + 2) by omega] at this
    · rw [if_neg hc] at h ⊢
      match j, h with
      | 0, h => cases h; exact List.mem_cons_self
      | j + 1, h =>
        refine List.mem_cons_of_mem _ ?_
        have := gc_en_at (ad := ad) r (i0 + 1) j v h hv
        rwa [show i0 + 1 + j = i0 + (j + 1) by omega] at this
theorem gc_en_wf : ∀ (a : List Value) (j : Nat) (v : Value), (gc_en a)[j]? = some v → v.category = 2 → (gc_en a)[j + 1]? = some (.retAddr 1)
  | [], j, v, h, _ => by simp [gc_en] at h
  | w :: r, j, v, h, hv => by
    unfold gc_en at h ⊢
    by_cases hc : w.category = 2
    · rw [if_pos hc] at h ⊢
      match j, h with
      | 0, h => rfl
      | 1, h => cases h; cases hv
      | j + 2, h => exact gc_en_wf r j v h hv
    · rw [if_neg hc] at h ⊢
      match j, h with
      | 0, h => cases h; exact absurd hv hc
      | j + 1, h => exact gc_en_wf r j v h hv
theorem gc_en_len {ad : Nat → Nat} : ∀ a : List Value, (lg_sl (a.map (gc_tr ad))).length = (gc_en a).length
  | [] => rfl
  | w :: r => by
    have ih := gc_en_len (ad := ad) r
    have hc := gc_trc ad w
    cases w <;> simp [gc_en, lg_sl, gc_tr, Value.category] at ih ⊢ <;> omega
theorem gc_pad_at {n : Nat} {l : List Value} {j : Nat} {v : Value} (h : (gc_pad n l)[j]? = some v) : l[j]? = some v ∨ (l.length ≤ j ∧ v = .retAddr 0) := by
  unfold gc_pad at h
  by_cases hj : j < l.length
  · rw [List.getElem?_append_left hj] at h; exact Or.inl h
  · rw [List.getElem?_append_right (by omega)] at h
    have := List.mem_of_getElem? h
    exact Or.inr ⟨by omega, (List.mem_replicate.mp this).2⟩
theorem gc_LR.entry {ad : Nat → Nat} {n : Nat} (a : List Value) (h : (gc_en a).length ≤ n) : gc_LR ad n ((lg_sl (a.map (gc_tr ad)) ++ List.replicate (n - (lg_sl (a.map (gc_tr ad))).length) Slot.unset).toArray) (gc_pad n (gc_en a)) := by
  refine ⟨by unfold gc_pad; simp; omega, fun j v hj hv => ?_, _, lv_entry (a.map (gc_tr ad)) (by rw [gc_en_len]; exact h), fun j v hj hv => ?_⟩
  · rcases gc_pad_at hj with h1 | ⟨-, rfl⟩
    · have h2 := gc_en_wf a j v h1 hv
      unfold gc_pad
      rw [List.getElem?_append_left (List.getElem?_eq_some_iff.mp h2).1]
      exact h2
    · cases hv
  · rcases gc_pad_at hj with h1 | ⟨-, rfl⟩
    · have := gc_en_at (ad := ad) a 0 j v h1 hv
      rwa [Nat.zero_add] at this
    · cases hv
/-! what stays: strings, statics, the script, links of nest mates -/
def gc_PF (ad : Nat → Nat) (b0 : Nat) (xs : Nat → Int32) (Lx : Nat) (U : State) (H : Heap) : Prop :=
  va_Nw (.methodLinkNest RX0 96 yX11_held RX11) U ∧ va_Nw (.methodLinkNest RX0 136 yX11_beside RX11) U ∧
  va_Z RX11 "KIND_ABOVE" "[I" (.ref (ad 108)) (gc_A b0) U H ∧ va_T .int (ad 108) 7 (fun j => .int (gc_ro 108 j)) (gc_A b0) U H ∧ va_Z "java/lang/String" "COMPACT_STRINGS" "Z" (.int 1) (gc_A b0) U H ∧
  vk_S 3 [0, 3, 3] [[], [119, 115, 121], [119, 110, 121]] (fun i => ad (102 + i)) (fun i => ad (105 + i)) (gc_A b0) U H ∧
  vk_R RX2 27 "" (ad 102) U ∧ vk_R RX2 33 "wsy" (ad 103) U ∧ vk_R RX2 35 "wny" (ad 104) U ∧ va_X (ad 109) Lx xs U H ∧ ad 109 < b0 ∧ Lx < 2 ^ 31
theorem gc_PF.kept {ad : Nat → Nat} {b0 Lx : Nat} {xs : Nat → Int32} {U : State} {H H1 : Heap} (h : gc_PF ad b0 xs Lx U H) (hz : b0 ≤ H.size) (hq : ∀ a : Nat, a < H.size → ¬ gc_A b0 a → H1[a]? = H[a]?) : gc_PF ad b0 xs Lx U H1 := by
  obtain ⟨h1, h2, h3, h4, h5, h6, h7, h8, h9, h10, h11, h12⟩ := h
  exact ⟨h1, h2, h3.kept hq, h4.kept hq, h5.kept hq, h6.kept hq, h7, h8, h9, h10.kept (hq _ (Nat.lt_of_lt_of_le h11 hz) (Nat.not_le.mpr h11)), h11, h12⟩
theorem gc_PF.warm {ad : Nat → Nat} {b0 Lx : Nat} {xs : Nat → Int32} {s U : State} {H : Heap} (h : gc_PF ad b0 xs Lx s H) (hW : s.WarmedH U.vm) : gc_PF ad b0 xs Lx U H := by
  obtain ⟨h1, h2, h3, h4, h5, h6, h7, h8, h9, h10, h11, h12⟩ := h
  have ha := hW.alike
  exact ⟨h1.warmM hW, h2.warmM hW, h3.moved ha, h4.moved ha, h5.moved ha, h6.moved ha, h7.warm hW, h8.warm hW, h9.warm hW, h10.moved ha, h11, h12⟩
theorem gc_PF.same {ad : Nat → Nat} {b0 Lx : Nat} {xs : Nat → Int32} {u U : State} {H : Heap} (h : gc_PF ad b0 xs Lx u H) (hv : U.vm = u.vm) : gc_PF ad b0 xs Lx U H := by
  obtain ⟨h1, h2, h3, h4, h5, h6, h7, h8, h9, h10, h11, h12⟩ := h
  have ha : u.vm.Alike U.vm := by rw [hv]; exact Vm.Alike.refl _
  exact ⟨h1.same rfl hv.symm, h2.same rfl hv.symm, h3.moved ha, h4.moved ha, h5.moved ha, h6.moved ha, h7.same hv, h8.same hv, h9.same hv, h10.moved ha, h11, h12⟩
def gc_gm (xs : Nat → Int32) (Lx : Nat) (μ : gM) : Prop := (∀ j, μ 109 j = xs j) ∧ μ 110 0 = nI Lx
def gc_G (cs : Nat → ClassId) (D : va_G) (ad : Nat → Nat) (b0 : Nat) (xs : Nat → Int32) (Lx : Nat) (μ : gM) (U : State) : Prop :=
  b0 ≤ U.heap.size ∧ va_P D vwCl (gc_w cs ad μ) U.heap ∧ va_K D vwCl (gc_ty cs) U ∧ gc_PF ad b0 xs Lx U U.heap ∧ gc_gm xs Lx μ
def gc_Q (cs : Nat → ClassId) (D : va_G) (ad : Nat → Nat) (b0 : Nat) (xs : Nat → Int32) (Lx : Nat) (R : gR) : Array Value → State → Outcome → State → Prop := fun _ st oc t =>
  (∃ (v : Option Value) (μ : gM), oc = .returned (v.map (gc_tr ad)) ∧ R v μ ∧ va_P D vwCl (gc_w cs ad μ) t.heap ∧ gc_gm xs Lx μ) ∧ va_F (gc_A b0) st t
abbrev gc_rm (d : Nat) : Room := { frames := d, cells := 0, slots := 0, locals := 40 * d }
def gc_Met (l : Launch) (cs : Nat → ClassId) (D : va_G) (ad : Nat → Nat) (b0 : Nat) (xs : Nat → Int32) (Lx : Nat) (d : Nat) (C : gC) : Prop :=
  ∀ (M : Nat) (a : List Value) (μ : gM) (R : gR), M < 252 → C M a μ R → Met l (gc_m M).1 (gc_ws M) (gc_rm d) (va_Pc (a.map (gc_tr ad)) (gc_G cs D ad b0 xs Lx μ)) (gc_Q cs D ad b0 xs Lx R) 0 0 (gc_A b0)
theorem gc_blind {cs : Nat → ClassId} {D : va_G} {ad : Nat → Nat} {b0 Lx : Nat} {xs : Nat → Int32} {μ : gM} {a : List Value} : FrameBlind (va_Pc a (gc_G cs D ad b0 xs Lx μ)) := by
  intro a' U g mk ⟨h1, h2, h3, h4, h5, h6⟩
  exact ⟨h1, h2, h3, va_K.moved (u := U) (U := U.calling g mk a') (Vm.Alike.refl U.vm) h4, h5.same rfl, h6⟩
section SND
variable {p : Program} {l : Launch} {e : Env} {R : Room} {s : State} {m : MethodId} {args : Array Value} {below : List Frame} {meth : Method} {c : Code} {cells slots : Nat} {Q : State → Prop}
variable {cs : Nat → ClassId} {D : va_G} {ad : Nat → Nat} {b0 Lx : Nat} {xs : Nat → Int32} {nL k b : Nat} {cc : ByteArray} {Ts : List Cond}
/-- behind a call -/
theorem gc_aft {pc : Nat} {ls : Array Slot} {st0 rest : List Value} {H : Heap} {locs : List Loc} {Rp : gR} {a : Array Value} (hr : va_Run p l e R s m args below meth c H locs cells slots 0 0 (F0 m pc ls st0) rest (gc_Q cs D ad b0 xs Lx Rp a) (gc_A b0)) (hS : va_S (gc_A b0) s.heap H locs)
    (kk : ∀ (v : Option Value) (μ : gM) (H1 : Heap) (locs1 : List Loc), Rp v μ → gc_gm xs Lx μ → va_P D vwCl (gc_w cs ad μ) H1 → va_S (gc_A b0) s.heap H1 locs1 → W p l e R s m args below meth c H1 locs1 cells slots Q (F0 m (pc + 3) ls ((v.map (gc_tr ad)).toList ++ rest))) : W p l e R s m args below meth c H locs cells slots Q (F0 m pc ls st0) := by
  intro T hT X
  obtain ⟨v, st₀, t, T', L, h0, X', hL, e1, e2, ⟨⟨v', μ, hv, hp, hb, hg⟩, hz, hk⟩, st⟩ := hr T hT X
  cases hv
  rw [h0] at hz hk
  obtain ⟨t2, a1, b1⟩ := kk v' μ T'.heap (locs ++ L) hp hg (by rw [e1]; exact hb)
    ⟨Nat.le_trans hS.1 (by rw [e1]; exact hz), fun q h1 h2 => by rw [e1, hk q (Nat.lt_of_lt_of_le h1 hS.1) h2]; exact hS.2.1 q h1 h2, fun q hq => by
      rcases List.mem_append.mp hq with h | h
      · exact hS.2.2 q h
      · exact hL q h⟩ T' rfl X'
  exact ⟨t2, st t2 a1, b1⟩
/-- what a callee asks -/
theorem gc_pre {H : Heap} {locs : List Loc} {μ : gM} (hsz : b0 ≤ s.heap.size) (hK : va_K D vwCl (gc_ty cs) s) (hPF : gc_PF ad b0 xs Lx s s.heap) (hg : gc_gm xs Lx μ) (hP : va_P D vwCl (gc_w cs ad μ) H) (hS : va_S (gc_A b0) s.heap H locs) : ∀ U : State, U.heap = H → s.WarmedH U.vm → gc_G cs D ad b0 xs Lx μ U := by
  intro U hU hW
  refine ⟨?_, by rw [hU]; exact hP, va_K.moved hW.alike hK, ?_, hg⟩
  · rw [hU]; exact Nat.le_trans hsz hS.1
  · rw [hU]
    exact (hPF.warm hW).kept hsz hS.2.1
theorem gc_obj {H : Heap} {μ : gM} {o : Nat} (hK : va_K D vwCl (gc_ty cs) s) (hP : va_P D vwCl (gc_w cs ad μ) H) (hk : gc_kd o < 13) {C : String} {T : u_T} {N : Nat} (hc : vwCl[gc_kd o]? = some (C, T, N)) : ∃ cell : Cell, H[ad o]? = some cell ∧ cell.vm.isStatics = false ∧ s.vm.findClass C = some cell.cls := by
  have ho : o < 102 := gc_k25 (by omega)
  have e := gc_w_at (cs := cs) (ad := ad) (μ := μ) ho
  unfold gc_ent at e
  rw [if_pos (by omega)] at e
  exact va_recv hK hP (ci := gc_kd o) (q0 := o) hc e
def gc_P (p : Program) (l : Launch) (e : Env) (R : Room) (s : State) (m : MethodId) (args : Array Value) (below : List Frame) (meth : Method) (c : Code) (cells slots : Nat) (Q : State → Prop) (cs : Nat → ClassId) (D : va_G) (ad : Nat → Nat) (b0 : Nat) (xs : Nat → Int32) (Lx nL : Nat) : gK := fun pc L st μ =>
  ∀ (H : Heap) (locs : List Loc) (ls : Array Slot), va_P D vwCl (gc_w cs ad μ) H → va_S (gc_A b0) s.heap H locs → gc_LR ad nL ls L → gc_gm xs Lx μ → W p l e R s m args below meth c H locs cells slots Q (F0 m pc ls (st.map (gc_tr ad)))
theorem gc_r4e {r : List Value} {P : Prop} (h : gc_r4 r P) : ((r.map (gc_tr ad)).map fun v => v.category).sum ≤ 8 ∧ P := by
  obtain ⟨h1, h2⟩ := gc_Be h
  refine ⟨?_, h2⟩
  unfold gc_rl at h1
  rw [Bool.or_eq_true] at h1
  have e : ((r.map (gc_tr ad)).map fun v => v.category) = r.map fun v => v.category := by
    rw [List.map_map]
    exact List.map_congr_left (fun v _ => gc_trc ad v)
  rcases h1 with h1 | h1
  · have h3 : r.length ≤ 4 := Nat.le_of_ble_eq_true h1
    have key : ∀ r : List Value, ((r.map (gc_tr ad)).map fun v => v.category).sum ≤ 2 * r.length := by
      intro r
      induction r with
      | nil => simp
      | cons v r ih =>
        have : (gc_tr ad v).category ≤ 2 := by rw [gc_trc]; cases v <;> simp [Value.category]
        simp only [List.map_cons, List.sum_cons, List.length_cons]
        omega
    have := key r
    omega
  · rw [e]; exact Nat.le_of_ble_eq_true h1
/-- a call of one of the table -/
theorem gc_call {d : Nat} {C : gC} (hC : gc_Met l cs D ad b0 xs Lx d C) {M n pc : Nat} {L st r : List Value} {μ : gM} {a0 : List Value} (hM : M < 252)
    (h : gc_cl C M n a0 (gc_P p l e R s m args below meth c cells slots Q cs D ad b0 xs Lx nL) pc L st r μ) (hr : st.drop n = a0.reverse ++ r)
    {H : Heap} {locs : List Loc} {ls : Array Slot} (hP : va_P D vwCl (gc_w cs ad μ) H) (hS : va_S (gc_A b0) s.heap H locs) (hL : gc_LR ad nL ls L) (hg : gc_gm xs Lx μ)
    (run : ∀ Rp : gR, ((r.map (gc_tr ad)).map fun v => v.category).sum ≤ 8 → Met l (gc_m M).1 (gc_ws M) (gc_rm d) (va_Pc ((a0 ++ (st.take n).reverse).map (gc_tr ad)) (gc_G cs D ad b0 xs Lx μ)) (gc_Q cs D ad b0 xs Lx Rp) 0 0 (gc_A b0) → (st.take n).length = n → st.map (gc_tr ad) = ((st.take n).reverse.map (gc_tr ad)).reverse ++ (a0.reverse ++ r).map (gc_tr ad) →
      va_Run p l e R s m args below meth c H locs cells slots 0 0 (F0 m pc ls (st.map (gc_tr ad))) (r.map (gc_tr ad)) (gc_Q cs D ad b0 xs Lx Rp ((a0 ++ (st.take n).reverse).map (gc_tr ad)).toArray) (gc_A b0)) :
    W p l e R s m args below meth c H locs cells slots Q (F0 m pc ls (st.map (gc_tr ad))) := by
  obtain ⟨h8, h⟩ := gc_r4e (ad := ad) h
  obtain ⟨hn, h⟩ := gc_Be h
  have hn := Nat.le_of_ble_eq_true hn
  refine gc_aft (run _ h8 (hC M _ _ _ hM h) (by rw [List.length_take]; omega) ?_) hS (fun v μ' H1 locs1 hv hg1 hP1 hS1 => ?_)
  · rw [← hr, List.map_reverse, List.reverse_reverse, ← List.map_append, List.take_append_drop]
  · have := hv H1 locs1 ls hP1 hS1 hL hg1
    rw [List.map_append] at this
    cases v <;> exact this
end SND
