/-! constructors: a step, a run, a constructor -/
section CT4
variable {p : Program} {l : Launch} {e : Env} {R : Room} {s : State} {m : MethodId} {args : Array Value} {below : List Frame} {meth : Method} {c : Code} {Q : State → Prop}
variable {cs : Nat → ClassId} {D : va_G} {ad : Nat → Nat} {b0 : Nat} {nL k nc ns : Nat} {cc : ByteArray} {Ts : List Cond}
theorem ct_tgt {pc : Nat} {off : Int} (h : decide (0 ≤ (pc : Int) + off) = true) : (pc : Int) + off = ((gc_tg pc off : Nat) : Int) := by
  have := of_decide_eq_true h
  unfold gc_tg; omega
theorem ct_rl {r : List Value} (h : gc_rl r = true) : ((r.map (gc_tr ad)).map fun v => v.category).sum ≤ 8 := (gc_r4e (ad := ad) (P := True) (gc_Bi h trivial)).1
theorem ct_vtr {v : Value} {ty : Option FieldType} (h : ct_vt ty v = true) : ∃ t, ty = some t ∧ narrow t (gc_tr ad v) = gc_tr ad v ∧ fits t (gc_tr ad v) = true := by
  unfold ct_vt at h
  split at h
  · cases v <;> first | exact ⟨_, rfl, rfl, rfl⟩ | (cases h; done)
  · cases v <;> first | exact ⟨_, rfl, rfl, rfl⟩ | (cases h; done)
  · cases v <;> first | exact ⟨_, rfl, rfl, rfl⟩ | (cases h; done)
  · cases h
/-- a new row of references -/
theorem ct_anew (hx : p.tables.exec = Jvm.exec) (hb : c.code = cc) {own C : String} {index : Nat} (hown : s.vm.findClass own = some m.cls) (hl : (Cond.classLink own index C).before args s = true) (hAO : va_AO C s) {cA : ClassId} (hra : va_RA s cA (.object C)) {n : Int32} {cu su pc : Nat} {ls : Array Slot} {rest : List Value} {H : Heap} {locs : List Loc} (hn : ¬ n < 0) (hN : n.toNatClampNeg ≤ 100000) (hcu : cu + 1 ≤ R.cells) (hsu : su + n.toNatClampNeg ≤ R.slots) (hdg : decode cc pc = .ok (.anewarray index, 3))
    (kk : ∀ H1 : Heap, H1.size = H.size + 1 → (∀ q, q < H.size → H1[q]? = H[q]?) → H1[H.size]? = some (vp_cell cA (n.toNatClampNeg, .inr (.inr (.inr (.inr (fun _ => none)))))) → W p l e R s m args below meth c H1 locs (cu + 1) (su + n.toNatClampNeg) Q (F0 m (pc + 3) ls (.ref H.size :: rest))) : W p l e R s m args below meth c H locs cu su Q (F0 m pc ls (.int n :: rest)) := by
  obtain ⟨kA', comp', k1, k2, k3, k4⟩ := hra
  refine W.anew hx hb hown hl (va_AO.use hAO) rfl hdg rfl hn (by omega) hcu hsu fun cA2 kA comp f1 f2 f3 f4 => ?_
  cases f1.symm.trans k4
  refine kk _ (Array.size_push ..) (fun q hq => by rw [Array.getElem?_push, if_neg (Nat.ne_of_lt hq)]) ?_
  rw [Array.getElem?_push_size, vp_cell_q, ← arrV_new]
  rfl
set_option maxHeartbeats 4000000 in
set_option maxRecDepth 20000 in
theorem ct_one {d : Nat} {Cc : Nat → List Value → ct_H → Option ct_H} (hC : ct_Met l cs D ad b0 d Cc) (hx : p.tables.exec = Jvm.exec) (hb : c.code = cc) (hml : c.maxLocals = nL) (hown : s.vm.findClass (gc_os k) = some m.cls) (hts : ∀ w ∈ Ts, w.before args s = true) (hTs : ∀ w ∈ gc_WL, w ∈ Ts) (hK : va_K D vwCl (gc_ty cs) s) (hN : ct_N ad s) (hsz : b0 ≤ s.heap.size) (hA : ct_ad ad b0) (hlim : nc ≤ R.cells ∧ ns ≤ R.slots) (hR : d + 1 ≤ R.frames ∧ 40 * d + 40 ≤ R.locals) (hin : k < 13 → meth.name = "<init>")
    {pc len : Nat} {i : Instr} {L st : List Value} {h : ct_H} {cu su : Nat} {x : ct_S} (hdg : decode cc pc = .ok (i, len)) (hs : ct_st Cc k nc ns pc len L st h cu su i = some x) (kk : ct_PP p l e R s m args below meth c Q cs D ad b0 nL x) : ct_PP p l e R s m args below meth c Q cs D ad b0 nL (pc, L, st, h, cu, su) := by
  intro H locs ls hw hS hL
  have hw : ct_wd D cs ad b0 h H := hw
  have hL : gc_LR ad nL ls L := hL
  show W p l e R s m args below meth c H locs cu su Q (F0 m pc ls (st.map (gc_tr ad)))
  obtain ⟨hl, hz, hP⟩ := id hw
  have hD := ct_lD (cs := cs) hA hl
  have hAS : ∀ q, s.heap.size ≤ q → gc_A b0 q := fun q z => Nat.le_trans hsz z
  have hAd : ∀ o x, h[o]? = some x → gc_A b0 (ad o) := fun o x ho => hD.2 o _ (ct_at0 ho)
  cases i
  case iconst n =>
    obtain ⟨h0, hs⟩ := ci_be (show ci_b _ _ = some x from hs)
    cases Nat.eq_of_beq_eq_true h0
    cases hs
    exact lv_iconst hx hb hdg rfl (kk H locs ls hw hS hL)
  case bipush n =>
    obtain ⟨h0, hs⟩ := ci_be (show ci_b _ _ = some x from hs)
    cases Nat.eq_of_beq_eq_true h0
    cases hs
    exact lv_bipush hx hb hdg rfl (kk H locs ls hw hS hL)
  case sipush n =>
    obtain ⟨h0, hs⟩ := ci_be (show ci_b _ _ = some x from hs)
    cases Nat.eq_of_beq_eq_true h0
    cases hs
    exact lv_sipush hx hb hdg rfl (kk H locs ls hw hS hL)
  case iload_n n =>
    obtain ⟨h0, hs⟩ := ci_be (show ci_b _ _ = some x from hs)
    cases Nat.eq_of_beq_eq_true h0
    obtain ⟨y, hi, hs⟩ := ci_gie hs
    cases hs
    exact lv_iload_n hx hb hdg rfl (hL.at hi rfl) (kk H locs ls hw hS hL)
  case iload n =>
    obtain ⟨h0, hs⟩ := ci_be (show ci_b _ _ = some x from hs)
    cases Nat.eq_of_beq_eq_true h0
    obtain ⟨y, hi, hs⟩ := ci_gie hs
    cases hs
    exact lv_iload hx hb hdg (hL.at hi rfl) (kk H locs ls hw hS hL)
  case aload_n n =>
    obtain ⟨h0, hs⟩ := ci_be (show ci_b _ _ = some x from hs)
    cases Nat.eq_of_beq_eq_true h0
    obtain ⟨y, hi, hs⟩ := ci_gre hs
    cases hs
    exact lv_aload_n hx hb hdg rfl (hL.at hi rfl) (kk H locs ls hw hS hL)
  case istore_n n =>
    obtain ⟨h0, hs⟩ := ci_be (show ci_b _ _ = some x from hs)
    cases Nat.eq_of_beq_eq_true h0
    obtain ⟨w, hi, hq, hs⟩ := ci_soe hs
    obtain ⟨y, r, rfl, hs⟩ := ci_1ie hs
    cases hs
    obtain ⟨hl1, hl2, lv, hl3, hl4⟩ := id hL
    exact lv_istore_n hx hb hdg rfl hl3 (hL.lt hi) rfl (fun ls' hl' => kk H locs ls' hw hS (gc_LR.set (ls := ls) ⟨hl1, hl2⟩ hl4 hi hq rfl hl'))
  case istore n =>
    obtain ⟨h0, hs⟩ := ci_be (show ci_b _ _ = some x from hs)
    cases Nat.eq_of_beq_eq_true h0
    obtain ⟨w, hi, hq, hs⟩ := ci_soe hs
    obtain ⟨y, r, rfl, hs⟩ := ci_1ie hs
    cases hs
    obtain ⟨hl1, hl2, lv, hl3, hl4⟩ := id hL
    exact lv_istore hx hb hdg hl3 (hL.lt hi) rfl (fun ls' hl' => kk H locs ls' hw hS (gc_LR.set (ls := ls) ⟨hl1, hl2⟩ hl4 hi hq rfl hl'))
  case astore_n n =>
    obtain ⟨h0, hs⟩ := ci_be (show ci_b _ _ = some x from hs)
    cases Nat.eq_of_beq_eq_true h0
    obtain ⟨w, hi, hq, hs⟩ := ci_soe hs
    obtain ⟨y, r, rfl, hs⟩ := ci_1re hs
    cases hs
    obtain ⟨hl1, hl2, lv, hl3, hl4⟩ := id hL
    exact lv_astore_n hx hb hdg rfl hl3 (hL.lt hi) rfl (fun ls' hl' => kk H locs ls' hw hS (gc_LR.set (ls := ls) ⟨hl1, hl2⟩ hl4 hi hq rfl hl'))
  case iinc n z =>
    obtain ⟨h0, hs⟩ := ci_be (show ci_b _ _ = some x from hs)
    cases Nat.eq_of_beq_eq_true h0
    obtain ⟨y, hi, hs⟩ := ci_gie hs
    cases hs
    obtain ⟨hl1, hl2, lv, hl3, hl4⟩ := id hL
    obtain ⟨q, hq⟩ := List.getElem?_of_mem (hl4 n _ hi rfl)
    exact lv_iinc hx hb hdg hl3 hq rfl (hL.lt hi) rfl (fun ls' hl' => kk H locs ls' hw hS (gc_LR.set (ls := ls) ⟨hl1, hl2⟩ hl4 hi rfl rfl hl'))
  case iadd =>
    obtain ⟨h0, hs⟩ := ci_be (show ci_b _ _ = some x from hs)
    cases Nat.eq_of_beq_eq_true h0
    obtain ⟨y, z, r, rfl, hs⟩ := ci_2ie hs
    cases hs
    exact lv_iadd hx hb hdg (kk H locs ls hw hS hL)
  case dup =>
    obtain ⟨h0, hs⟩ := ci_be (show ci_b _ _ = some x from hs)
    cases Nat.eq_of_beq_eq_true h0
    obtain ⟨y, r, rfl, hs⟩ := ci_1re hs
    cases hs
    exact lv_dup hx hb hdg rfl (kk H locs ls hw hS hL)
  case if_icmp c2 off =>
    cases c2
    case ge =>
      obtain ⟨h0, h2⟩ := ci_be (show ci_b _ _ = some x from hs)
      clear hs
      rw [Bool.and_eq_true] at h0
      cases Nat.eq_of_beq_eq_true h0.1
      obtain ⟨y, z, r, rfl, hs⟩ := ci_2ie h2
      refine lv_icmp_ge hx hb hdg (ct_tgt h0.2) (fun g => ?_) (fun g => ?_)
      · rw [if_pos g] at hs; cases hs; exact kk H locs ls hw hS hL
      · rw [if_neg g] at hs; cases hs; exact kk H locs ls hw hS hL
    all_goals cases hs
  case goto off =>
    obtain ⟨h0, h2⟩ := ci_be (show ci_b _ _ = some x from hs)
    clear hs
    rw [Bool.and_eq_true] at h0
    cases Nat.eq_of_beq_eq_true h0.1
    cases h2
    exact lv_goto hx hb hdg (ct_tgt h0.2) (kk H locs ls hw hS hL)
  case ldc n =>
    obtain ⟨h0, h2⟩ := ci_be (show ci_b _ _ = some x from hs)
    clear hs
    rw [Bool.and_eq_true, Bool.and_eq_true] at h0
    cases Nat.eq_of_beq_eq_true h0.1.1
    cases Nat.eq_of_beq_eq_true h0.1.2
    cases Nat.eq_of_beq_eq_true h0.2
    cases h2
    exact va_ldcS hx hb hown hN.2.2.2.2.2 hdg (kk H locs ls hw hS hL)
  case new n =>
    obtain ⟨h0, hs⟩ := ci_be (show ci_b _ _ = some x from hs)
    cases Nat.eq_of_beq_eq_true h0
    obtain ⟨ci, hci, hs⟩ := ci_oe hs
    obtain ⟨q, hv, hs⟩ := ci_oe hs
    obtain ⟨ha, hs⟩ := ci_be hs
    obtain ⟨-, -, a3, a4, a5⟩ := ci_ale ha
    cases hs
    obtain ⟨C, T, N, hv2, w1, w2, w3⟩ := ct_n_ok hci
    cases hv.symm.trans hv2
    obtain ⟨hu, -, hnm⟩ := gc_cls hv
    obtain ⟨⟨ty, hty, hdf⟩, hbl⟩ := ct_born hv
    have hKn := hK.1 ci _ hv
    have hlt := gc_v20 hv
    have ez : H.size = ad h.length := by rw [hA _ (by omega)]; exact hz
    refine W.newcK hx hb hown (hts _ (hTs _ w1)) (hts _ (hTs _ w2)) (hts _ (hTs _ w3)) rfl hdg (by omega) (Nat.le_trans a4 hlim.2) hKn.2.1 ez fun H1 kC hkC e1 z1 o1 => ?_
    rw [← ez] at z1 o1
    refine kk H1 locs ls (ct_push hw (by omega) z1 o1 ?_) (ct_grow hS z1 o1) hL
    have hb2 : ct_c cs ad (ci, 0, ct_bT.getD ci []) = .inr (ci, ct_bT.getD ci []) := by
      unfold ct_c
      rw [if_pos (show ci < 20 from hlt), hbl]
    rw [hb2]
    exact ⟨_, hv, (u_born ty hts (fun w z => hTs w (hu w z)) hKn hkC e1 hty).to hdf⟩
  case newarray t =>
    cases t
    case int =>
      obtain ⟨h0, hs⟩ := ci_be (show ci_b _ _ = some x from hs)
      cases Nat.eq_of_beq_eq_true h0
      obtain ⟨y, r, rfl, hs⟩ := ci_1ie hs
      obtain ⟨ha, hs⟩ := ci_be hs
      obtain ⟨a1, a2, a3, a4, a5⟩ := ci_ale ha
      cases hs
      have ez : H.size = ad h.length := by rw [hA _ (by omega)]; exact hz
      refine va_newaK hx hb (atype := .int) (hts _ (hTs _ ct_iw)) (g := F0 m pc ls _) rfl hdg rfl a1 rfl (by show y.toNatClampNeg * 4 ≤ _; omega) (by omega) (Nat.le_trans a4 hlim.2) ez fun H1 cA e1 z1 o1 hAr hNm => ?_
      rw [← ez] at z1 o1
      have hc := (hK.2 0 _ rfl).2
      cases hNm.symm.trans (show s.vm.findClass ("[" ++ (FieldType.int).toString) = some (cs 0) from hc)
      exact kk H1 locs ls (ct_push hw (by omega) z1 o1 e1) (ct_grow hS z1 o1) hL
    case boolean =>
      obtain ⟨h0, hs⟩ := ci_be (show ci_b _ _ = some x from hs)
      cases Nat.eq_of_beq_eq_true h0
      obtain ⟨y, r, rfl, hs⟩ := ci_1ie hs
      obtain ⟨ha, hs⟩ := ci_be hs
      obtain ⟨a1, a2, a3, a4, a5⟩ := ci_ale ha
      cases hs
      have ez : H.size = ad h.length := by rw [hA _ (by omega)]; exact hz
      refine va_newaK hx hb (atype := .boolean) (hts _ (hTs _ ct_bw)) (g := F0 m pc ls _) rfl hdg rfl a1 rfl (by show y.toNatClampNeg * 1 ≤ _; omega) (by omega) (Nat.le_trans a4 hlim.2) ez fun H1 cA e1 z1 o1 hAr hNm => ?_
      rw [← ez] at z1 o1
      have hc := (hK.2 1 _ rfl).2
      cases hNm.symm.trans (show s.vm.findClass ("[" ++ (FieldType.boolean).toString) = some (cs 1) from hc)
      exact kk H1 locs ls (ct_push hw (by omega) z1 o1 e1) (ct_grow hS z1 o1) hL
    all_goals cases hs
  case anewarray n =>
    obtain ⟨h0, hs⟩ := ci_be (show ci_b _ _ = some x from hs)
    cases Nat.eq_of_beq_eq_true h0
    obtain ⟨y, r, rfl, hs⟩ := ci_1ie hs
    obtain ⟨ci, hci, hs⟩ := ci_oe hs
    obtain ⟨hb2, hs⟩ := ci_be hs
    rw [Bool.and_eq_true] at hb2
    obtain ⟨hq, ha⟩ := hb2
    obtain ⟨a1, a2, a3, a4, a5⟩ := ci_ale ha
    cases hs
    obtain ⟨C, T, N, hv, w1, -, -⟩ := ct_n_ok hci
    have ez : H.size = ad h.length := by rw [hA _ (by omega)]; exact hz
    rw [Bool.or_eq_true, Bool.or_eq_true] at hq
    rcases hq with (hq | hq) | hq
    · cases Nat.eq_of_beq_eq_true hq
      cases (show some (RX5, TX5, 0) = some (C, T, N) from hv)
      refine ct_anew hx hb hown (hts _ (hTs _ w1)) hN.2.2.1 (cA := cs 2) (hK.2 2 _ rfl).2 a1 a2 (by omega) (Nat.le_trans a4 hlim.2) hdg (fun H1 z1 o1 e1 => ?_)
      rw [ez] at e1 ⊢
      exact kk H1 locs ls (ct_push hw (by omega) z1 o1 e1) (ct_grow hS z1 o1) hL
    · cases Nat.eq_of_beq_eq_true hq
      cases (show some (RX2, TX2, 5) = some (C, T, N) from hv)
      refine ct_anew hx hb hown (hts _ (hTs _ w1)) hN.2.2.2.1 (cA := cs 3) (hK.2 3 _ rfl).2 a1 a2 (by omega) (Nat.le_trans a4 hlim.2) hdg (fun H1 z1 o1 e1 => ?_)
      rw [ez] at e1 ⊢
      exact kk H1 locs ls (ct_push hw (by omega) z1 o1 e1) (ct_grow hS z1 o1) hL
    · cases Nat.eq_of_beq_eq_true hq
      cases (show some (RX7, TX7, 3) = some (C, T, N) from hv)
      refine ct_anew hx hb hown (hts _ (hTs _ w1)) hN.2.2.2.2.1 (cA := cs 4) (hK.2 4 _ rfl).2 a1 a2 (by omega) (Nat.le_trans a4 hlim.2) hdg (fun H1 z1 o1 e1 => ?_)
      rw [ez] at e1 ⊢
      exact kk H1 locs ls (ct_push hw (by omega) z1 o1 e1) (ct_grow hS z1 o1) hL
  case putfield n =>
    obtain ⟨h0, hs⟩ := ci_be (show ci_b _ _ = some x from hs)
    cases Nat.eq_of_beq_eq_true h0
    obtain ⟨⟨ci, j⟩, hf, hs⟩ := ci_oe hs
    obtain ⟨o, v, r, rfl, hs⟩ := ci_vre hs
    obtain ⟨⟨t, mm, fs⟩, ho, hs⟩ := ci_oe hs
    obtain ⟨hb2, hs⟩ := ci_be hs
    simp only [Bool.and_eq_true] at hb2
    obtain ⟨⟨b1, b2⟩, b3⟩ := hb2
    have b1 : t = ci := Nat.eq_of_beq_eq_true b1
    subst b1
    cases hs
    obtain ⟨C, T, N, hv, hj, hdecl, w1, hk13⟩ := ct_f_ok hf
    obtain ⟨hu, ⟨ty, hty⟩, hnm⟩ := gc_cls hv
    have hlt := gc_v20 hv
    unfold ct_ft at b3
    rw [hv] at b3
    obtain ⟨ty2, hd2, hn2, hf2⟩ := ct_vtr (ad := ad) b3
    have he := hP o _ (ct_at0 ho)
    have ec : ∀ fs : List Value, ct_c cs ad (t, mm, fs) = .inr (t, fs.map (gc_tr ad)) := fun fs => by unfold ct_c; rw [if_pos (show t < 20 from hlt)]
    rw [ec] at he
    refine ct_put (D := D) hx hb hts (fun w z => hTs w (hu w z)) ty hty hnm hown hK he hv j hj hdecl (hts _ (hTs _ w1)) (hin hk13) hd2 hn2 hf2 (by rw [List.length_map]; exact gc_blt b2) hdg (fun H1 y z1 oq hat => ?_)
    refine kk H1 _ ls (ct_upd hA hw ho z1 oq ?_) (hS.put z1 oq (hAd o _ ho)) hL
    rw [ec, List.map_set]
    exact hat
  case getfield n =>
    obtain ⟨h0, hs⟩ := ci_be (show ci_b _ _ = some x from hs)
    cases Nat.eq_of_beq_eq_true h0
    obtain ⟨⟨ci, j⟩, hf, hs⟩ := ci_oe hs
    obtain ⟨o, r, rfl, hs⟩ := ci_1re hs
    obtain ⟨⟨t, mm, fs⟩, ho, hs⟩ := ci_oe hs
    obtain ⟨v, hfv, hs⟩ := ci_oe hs
    obtain ⟨b1, h2⟩ := ci_be hs
    clear hs
    have b1 : t = ci := Nat.eq_of_beq_eq_true b1
    subst b1
    cases h2
    obtain ⟨C, T, N, hv, hj, hdecl, w1, hk13⟩ := ct_f_ok hf
    obtain ⟨hu, ⟨ty, hty⟩, hnm⟩ := gc_cls hv
    have hlt := gc_v20 hv
    have ec : ∀ fs : List Value, ct_c cs ad (t, mm, fs) = .inr (t, fs.map (gc_tr ad)) := fun fs => by unfold ct_c; rw [if_pos (show t < 20 from hlt)]
    refine va_get (D := D) hx hb hts (fun w z => hTs w (hu w z)) hown hK hP o (by rw [ct_at0 ho, ec]) hv j hj (hts _ (hTs _ w1)) (fun _ z => z) (v := gc_tr ad v) (by have hfv : fs[j]? = some v := hfv; rw [List.getElem?_map, hfv]; rfl) hdg (kk H locs ls hw hS hL)
  case iastore =>
    obtain ⟨h0, hs⟩ := ci_be (show ci_b _ _ = some x from hs)
    cases Nat.eq_of_beq_eq_true h0
    obtain ⟨o, i, v, r, rfl, hs⟩ := ci_iire hs
    obtain ⟨⟨t, N, fs⟩, ho, hs⟩ := ci_oe hs
    obtain ⟨hb2, hs⟩ := ci_be hs
    rw [Bool.and_eq_true] at hb2
    have b1 : t = 20 := Nat.eq_of_beq_eq_true hb2.1
    subst b1
    cases hs
    have hi : vp_in i N := ci_ine hb2.2
    have he := hP o _ (ct_at0 ho)
    have ec : ∀ fs : List Value, ct_c cs ad (20, N, fs) = .inl (cs 0, N, .inl (fun j => ct_I (fs.getD j .null))) := fun fs => rfl
    rw [ec] at he
    refine W.iast hx hb (show H[ad o]? = some (vp_cell (cs 0) (N, .inl (fun j => ct_I (fs.getD j .null)))) from he) ((hK.2 0 _ rfl).1 N (fun j => .int (ct_I (fs.getD j .null)))) (fun q => by cases q) (by show ¬ (i < 0 ∨ (arrV _ _ _).slots.size ≤ _); rw [arrV_size]; exact hi) rfl rfl hdg fun H1 e1 z1 oq => ?_
    refine kk H1 _ ls (ct_upd hA hw ho z1 oq ?_) (hS.put z1 oq (hAd o _ ho)) hL
    rw [ec]
    show H1[ad o]? = some (vp_cell _ _)
    rw [e1, vp_cell_i, vp_cell_i, arrV_store]
    congr 2
    funext q
    rw [ct_set_g]
    by_cases hq : q = i.toNatClampNeg
    · subst hq; simp [updV, ct_I]
    · simp [updV, hq]
  case aastore =>
    obtain ⟨h0, hs⟩ := ci_be (show ci_b _ _ = some x from hs)
    cases Nat.eq_of_beq_eq_true h0
    obtain ⟨o, i, v, r, rfl, hs⟩ := ci_rire hs
    obtain ⟨⟨t, N, fs⟩, ho, hs⟩ := ci_oe hs
    obtain ⟨⟨ci, m2, fs2⟩, hov, hs⟩ := ci_oe hs
    obtain ⟨hb2, hs⟩ := ci_be hs
    rw [Bool.and_eq_true] at hb2
    obtain ⟨has, hin2⟩ := hb2
    have has : ct_as ci t = true := has
    cases hs
    have hi : vp_in i N := ci_ine hin2
    have hlt : i.toNatClampNeg < N := Nat.not_le.mp fun q => hi (Or.inr q)
    have hi0 : ¬ i < 0 := fun q => hi (Or.inl q)
    -- the row's class, what may lie in it
    obtain ⟨E, ht22, hkt, hci13, hasg⟩ : ∃ E : String, 22 ≤ t ∧ (gc_ty cs)[t - 20]? = some (cs (t - 20), .object E) ∧ ci < 13 ∧ (va_Nw (.castable (gc_os ci) E) s ∨ E = gc_os ci) := by
      unfold ct_as at has
      simp only [Bool.or_eq_true, Bool.and_eq_true] at has
      rcases has with (⟨h1, h2⟩ | ⟨h1, h2⟩) | ⟨h1, h2⟩
      · cases Nat.eq_of_beq_eq_true h1
        refine ⟨RX5, by decide, rfl, ?_⟩
        rcases h2 with h2 | h2
        · cases Nat.eq_of_beq_eq_true h2
          exact ⟨by decide, .inr rfl⟩
        · have hm : ci ∈ ct_cl := by simpa using h2
          refine ⟨?_, .inl (hN.2.1 ci hm)⟩
          have : ∀ z, z ∈ ct_cl → z < 13 := by decide
          exact this ci hm
      · cases Nat.eq_of_beq_eq_true h1
        cases Nat.eq_of_beq_eq_true h2
        exact ⟨RX2, by decide, rfl, by decide, .inr rfl⟩
      · cases Nat.eq_of_beq_eq_true h1
        cases Nat.eq_of_beq_eq_true h2
        exact ⟨RX7, by decide, rfl, by decide, .inr rfl⟩
    have ec : ∀ fs : List Value, ct_c cs ad (t, N, fs) = .inl (cs (t - 20), N, .inr (.inr (.inr (.inr (fun j => ct_R ad (fs.getD j .null)))))) := fun fs => by
      unfold ct_c
      rw [if_neg (show ¬ t < 20 by omega), if_neg (show ¬ t < 22 by omega)]
    have he := hP o _ (ct_at0 ho)
    rw [ec] at he
    have hev := hP v _ (ct_at0 hov)
    have ev2 : ct_c cs ad (ci, m2, fs2) = .inr (ci, fs2.map (gc_tr ad)) := by unfold ct_c; rw [if_pos (show ci < 20 by omega)]
    rw [ev2] at hev
    obtain ⟨q0, hq0, cellV, g1, g2, g3, -⟩ := hev
    have hn0 : q0.1 = gc_os ci := by
      have : ∀ z, z < 13 → (vwCl[z]?).map (fun q => q.1) = some (gc_os z) := by decide +kernel
      have h1 := this ci hci13
      have hq0 : vwCl[ci]? = some q0 := hq0
      rw [hq0] at h1
      exact Option.some.inj h1
    have hcls := (hK.1 ci q0 hq0).2
    obtain ⟨kA, comp, k1, k2, k3, -⟩ := (hK.2 (t - 20) _ hkt).2
    obtain ⟨kE, hkE, -⟩ := Vm.findClass_spec k3
    obtain ⟨kC, hkC, -⟩ := hcls.2
    have hinst : s.vm.assignable (D.1 ci) comp = true := by
      rcases hasg with hca | rfl
      · obtain ⟨c0, t1, f1, f2, f3⟩ := Cond.castable_spec (va_Nw.use (A := args) rfl hca)
        rw [← hn0] at f1
        cases hcls.1.symm.trans f1
        cases k3.symm.trans f2
        exact f3
      · rw [← hn0] at k3
        cases k3.symm.trans hcls.1
        exact va_assign hcls
    refine W.aast hx hb (show H[ad o]? = some (vp_cell (cs (t - 20)) (N, .inr (.inr (.inr (.inr (fun j => ct_R ad (fs.getD j .null))))))) from he) (fun q z => by cases z) (fun z => by cases z) k1 k2 rfl hkE ⟨hi0, by show _ < (arrV _ _ _).slots.size; rw [arrV_size]; exact hlt⟩ g1 (fun q z => by rw [g3] at z; cases z) (by rw [g2]; exact hkC) (by rw [g2]; exact hinst) rfl rfl hdg fun H1 e1 z1 oq => ?_
    refine kk H1 _ ls (ct_upd hA hw ho z1 oq ?_) (hS.put z1 oq (hAd o _ ho)) hL
    rw [ec]
    show H1[ad o]? = some (vp_cell _ _)
    rw [e1, vp_cell_q, vp_cell_q, arrV_store]
    congr 2
    funext q
    rw [ct_set_g]
    by_cases hq : q = i.toNatClampNeg
    · subst hq; simp [updV, ct_R, va_rf]
    · simp [updV, hq]
  case invokespecial n =>
    obtain ⟨h0, hs⟩ := ci_be (show ci_b _ _ = some x from hs)
    cases Nat.eq_of_beq_eq_true h0
    obtain ⟨⟨q, M, n2⟩, hk, hs⟩ := ci_oe hs
    obtain ⟨p1, p2, p3, p4, hok⟩ := ct_k_ok hk
    have hsize : (F0 m pc ls (st.map (gc_tr ad))).locals.size = nL := by obtain ⟨-, -, l, h1, -⟩ := hL; exact h1.1
    cases q with
    | zero =>
      unfold ct_kok at hok
      simp only [Bool.and_eq_true, decide_eq_true_eq] at hok
      obtain ⟨⟨o1, o2⟩, o3⟩ := hok
      obtain ⟨y, r, rfl, hs⟩ := ci_1re (show ci_1r st _ = some x from hs)
      obtain ⟨hr, hs⟩ := ci_be hs
      cases hs
      have h8 := ct_rl (ad := ad) hr
      refine W.objInit hx hb hown (hts _ (hTs _ (gc_wl o1 rfl))) (hts _ (hTs _ (gc_wl o2 rfl))) (hts _ (hTs _ (gc_wl o3 rfl))) (g := F0 m pc ls _) rfl (hsize.trans hml.symm) rfl hdg (by omega) (by show 2 * 0 + _ + 12 ≤ _; omega) (kk H locs ls hw hS hL)
    | succ q =>
      unfold ct_kok at hok
      simp only [Bool.and_eq_true, decide_eq_true_eq] at hok
      obtain ⟨⟨⟨⟨⟨⟨o1, o2⟩, o3⟩, o4⟩, o5⟩, o6⟩, o7⟩ := hok
      have hM : M < 13 := gc_blt o1
      obtain ⟨o, r, hdr, hs⟩ := ci_1re (show ci_1r (st.drop n2) _ = some x from hs)
      obtain ⟨hb2, hs⟩ := ci_be hs
      simp only [Bool.and_eq_true, Nat.ble_eq] at hb2
      obtain ⟨⟨⟨hr, hn2⟩, hcu⟩, hsu⟩ := hb2
      have hn2 : n2 ≤ st.length := hn2
      have hcu : cu + ct_nc M ≤ nc := hcu
      have hsu : su + ct_ns M (.ref o :: (st.take n2).reverse) ≤ ns := hsu
      obtain ⟨h', hC2, hs⟩ := ci_oe hs
      cases hs
      have hMet := hC M _ h h' hM hC2
      have h8 := ct_rl (ad := ad) hr
      have hmk := ct_mok_all M hM
      unfold ct_mok at hmk
      simp only [Bool.and_eq_true, decide_eq_true_eq, Nat.ble_eq] at hmk
      obtain ⟨⟨⟨⟨⟨m1, -⟩, -⟩, m4⟩, -⟩, -⟩ := hmk
      have room : (ct_rm d (ct_nc M) (ct_ns M (.ref o :: (st.take n2).reverse))).frames + 1 ≤ R.frames ∧ 8 + ((ct_mt M).2.2.1 + 11) + (ct_rm d (ct_nc M) (ct_ns M (.ref o :: (st.take n2).reverse))).locals ≤ R.locals := ⟨hR.1, by show 8 + ((ct_mt M).2.2.1 + 11) + 40 * d ≤ _; omega⟩
      unfold gc_nmh at o6
      unfold gc_pn at o7
      simp only [Bool.and_eq_true, decide_eq_true_eq] at o6
      have o7 := of_decide_eq_true o7
      have S : CallFix p m c cc nL s args Ts (gc_os k) := ⟨hx, hb, hml, hown, hts⟩
      have hlen : ((st.take n2).reverse.map (gc_tr ad)).length = n2 := by
        rw [List.length_map, List.length_reverse, List.length_take]; omega
      have hstk : st.map (gc_tr ad) = ((st.take n2).reverse.map (gc_tr ad)).reverse ++ .ref (ad o) :: r.map (gc_tr ad) := by
        rw [List.map_reverse, List.reverse_reverse]
        have e1 : (Value.ref (ad o) :: r.map (gc_tr ad)) = (st.drop n2).map (gc_tr ad) := by rw [hdr]; rfl
        rw [e1, ← List.map_append, List.take_append_drop]
      have room8 : 2 * (F0 m pc ls (st.map (gc_tr ad))).monitorRoom + ((r.map (gc_tr ad)).map fun v => v.category).sum ≤ 8 := by
        show 2 * 0 + _ ≤ 8
        omega
      have pre : PreS s H (va_Pc ((Value.ref o :: (st.take n2).reverse).map (gc_tr ad)) (ct_G cs D ad b0 h)) (Value.ref (ad o) :: (st.take n2).reverse.map (gc_tr ad)) := ⟨ct_blind, fun U hU hW => ⟨rfl, by rw [hU]; exact hw, va_K.moved hW.alike hK, hN.warm hW⟩⟩
      by_cases hq : q = 0
      · rw [if_pos hq] at o3
        have o3 := of_decide_eq_true o3
        refine ct_aft (va_runI (As := (st.take n2).reverse.map (gc_tr ad)) (rest := r.map (gc_tr ad)) S hMet (cwI n2 hts (ct_gin hTs (ct_code hM)) rfl rfl rfl (hts _ (hTs _ (gc_wl o5 rfl))) (hts _ (hTs _ (gc_wl o3 rfl))) (hts _ (hTs _ (gc_wl o4 rfl))) m4 ⟨o6.1, o6.2, o7⟩ room) pre rfl hlen hsize hstk room8 hdg ⟨Nat.le_trans hcu hlim.1, Nat.le_trans hsu hlim.2⟩) hS (fun H1 locs1 hw1 hS1 => kk H1 locs1 ls hw1 hS1 hL)
      · rw [if_neg hq] at o3
        have hmem : (k, n, M) ∈ ct_nl := by simpa using o3
        refine ct_aft (va_runIN (As := (st.take n2).reverse.map (gc_tr ad)) (rest := r.map (gc_tr ad)) S hMet ⟨va_cnB n2 hts (ct_gin hTs (ct_code hM)) rfl rfl rfl (hN.1 _ hmem) (hts _ (hTs _ (gc_wl o5 rfl))) ⟨o6.1, o6.2, o7⟩ room, m4, hts _ (hTs _ (gc_wl o4 rfl))⟩ pre rfl hlen hsize hstk room8 hdg ⟨Nat.le_trans hcu hlim.1, Nat.le_trans hsu hlim.2⟩) hS (fun H1 locs1 hw1 hS1 => kk H1 locs1 ls hw1 hS1 hL)
  all_goals cases hs
end CT4
