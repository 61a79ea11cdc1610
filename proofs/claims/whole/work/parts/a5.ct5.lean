/-! constructors: runs -/
def ct_go (Cc : Nat → List Value → ct_H → Option ct_H) (k : Nat) (cc : ByteArray) (nc ns : Nat) (x y : ct_S) : Prop := ∀ P : ct_S → Prop, (∀ x z i len, decode cc x.1 = .ok (i, len) → ct_st Cc k nc ns x.1 len x.2.1 x.2.2.1 x.2.2.2.1 x.2.2.2.2.1 x.2.2.2.2.2 i = some z → P z → P x) → P y → P x
theorem ct_go.rf {Cc : Nat → List Value → ct_H → Option ct_H} {k : Nat} {cc : ByteArray} {nc ns : Nat} {x : ct_S} : ct_go Cc k cc nc ns x x := fun _ _ h => h
theorem ct_go.tr {Cc : Nat → List Value → ct_H → Option ct_H} {k : Nat} {cc : ByteArray} {nc ns : Nat} {x y z : ct_S} (h1 : ct_go Cc k cc nc ns x y) (h2 : ct_go Cc k cc nc ns y z) : ct_go Cc k cc nc ns x z := fun P hP h => h1 P hP (h2 P hP h)
theorem ct_rs_go {Cc : Nat → List Value → ct_H → Option ct_H} {k : Nat} {cc : ByteArray} {nc ns : Nat} : ∀ (f : Nat) (x y : ct_S), ct_rs Cc k cc nc ns f x = some y → ct_go Cc k cc nc ns x y
  | 0, x, y, h => by cases h; exact ct_go.rf
  | f + 1, x, y, h => by
    unfold ct_rs at h
    cases hd : decode cc x.1 with
    | error z => rw [hd] at h; cases h
    | ok q =>
      obtain ⟨i, len⟩ := q
      rw [hd] at h
      dsimp only at h
      cases hs : ct_st Cc k nc ns x.1 len x.2.1 x.2.2.1 x.2.2.2.1 x.2.2.2.2.1 x.2.2.2.2.2 i with
      | none => rw [hs] at h; cases h
      | some z =>
        rw [hs] at h
        exact fun P hP hy => hP x z i len hd hs (ct_rs_go f z y h P hP hy)
theorem ct_rn_go {Cc : Nat → List Value → ct_H → Option ct_H} {k : Nat} {cc : ByteArray} {stp nc ns : Nat} : ∀ (f : Nat) (x y : ct_S), ct_rn Cc k cc stp nc ns f x = some y → y.1 = stp ∧ ct_go Cc k cc nc ns x y
  | 0, x, y, h => by cases h
  | f + 1, x, y, h => by
    unfold ct_rn at h
    by_cases e : x.1 = stp
    · rw [if_pos e] at h
      cases h
      exact ⟨e, ct_go.rf⟩
    · rw [if_neg e] at h
      cases hd : decode cc x.1 with
      | error z => rw [hd] at h; cases h
      | ok q =>
        obtain ⟨i, len⟩ := q
        rw [hd] at h
        dsimp only at h
        cases hs : ct_st Cc k nc ns x.1 len x.2.1 x.2.2.1 x.2.2.2.1 x.2.2.2.2.1 x.2.2.2.2.2 i with
        | none => rw [hs] at h; cases h
        | some z =>
          rw [hs] at h
          obtain ⟨h1, h2⟩ := ct_rn_go f z y h
          exact ⟨h1, fun P hP hy => hP x z i len hd hs (h2 P hP hy)⟩
theorem ct_mk {l : Launch} {cs : Nat → ClassId} {D : va_G} {ad : Nat → Nat} {b0 d M : Nat} {Cc : Nat → List Value → ct_H → Option ct_H} {a : List Value} {h : ct_H} {y : ct_S} (hA : ct_ad ad b0) (hC : ct_Met l cs D ad b0 d Cc) (hM : M < 13) (ha : (gc_en a).length ≤ (ct_mt M).2.2.1) (go : ct_go Cc M (ct_mt M).2.1 (ct_nc M) (ct_ns M a) (0, gc_pad (ct_mt M).2.2.1 (gc_en a), [], h, 0, 0) y) (h1 : y.1 = (ct_mt M).2.2.2.1) (h2 : y.2.2.1 = []) (h3 : y.2.2.2.2.1 ≤ ct_nc M) (h4 : y.2.2.2.2.2 ≤ ct_ns M a) : Met l (ct_y M) (ct_ws M) (ct_rm (d + 1) (ct_nc M) (ct_ns M a)) (va_Pc (a.map (gc_tr ad)) (ct_G cs D ad b0 h)) (ct_Q cs D ad b0 y.2.2.2.1) (ct_nc M) (ct_ns M a) (gc_A b0) := by
  have hmk := ct_mok_all M hM
  unfold ct_mok at hmk
  simp only [Bool.and_eq_true, decide_eq_true_eq, Nat.ble_eq] at hmk
  obtain ⟨⟨⟨⟨⟨m1, m2⟩, m3⟩, m4⟩, -⟩, m6⟩ := hmk
  refine Met.ofW (cc := (ct_mt M).2.1) (maxL := (ct_mt M).2.2.1) (ret := none) m2 rfl ?_
  intro p e s m args below meth c s₁ B hml hv
  obtain ⟨rfl, hw, hK, hN⟩ := hv
  have hx := B.exec
  have hb := B.bytes
  have hr := B.returns
  have hts := atoms_spec (ws := ct_ws M) B.pre
  have hown : s.vm.findClass (ct_y M).cls = some m.cls := findClass_of_methodNamed B.named
  rw [← m3] at hown
  have hlocks := B.notSynchronized
  have hin : meth.name = "<init>" := (name_of_methodNamed B.named B.method).1.trans m4
  have hent := gc_LR.entry (ad := ad) a ha
  rw [lg_entry_eq]
  refine go (ct_PP p l e (headSpec (ct_ws M) (ct_rm (d + 1) (ct_nc M) (ct_ns M a))).room s m (a.map (gc_tr ad)).toArray below meth c (MQ below (ct_Q cs D ad b0 y.2.2.2.1) (a.map (gc_tr ad)).toArray s (ct_nc M) (ct_ns M a) (gc_A b0)) cs D ad b0 (ct_mt M).2.2.1) ?_ ?_ s.heap [] _ hw va_S.rf hent
  · intro x z i len hdg hs kk
    exact ct_one (d := d) hC hx hb hml hown hts (fun w z => List.mem_cons_of_mem _ z) hK hN (by have := hw.2.1; omega) hA ⟨Nat.le_refl _, Nat.le_refl _⟩ ⟨Nat.le_refl _, by show 40 * d + 40 ≤ 40 * (d + 1); omega⟩ (fun _ => hin) hdg hs kk
  · intro H locs ls hw2 hS hL
    rw [h1, h2]
    refine W.widen (k := ct_nc M) (n := ct_ns M a) h3 h4 ?_
    exact W.vret hx hb hr (fun t ht hW => ⟨rfl, by rw [ht]; exact hw2, hS.F ht⟩) hS.2.2 m6
theorem ct_met {l : Launch} {cs : Nat → ClassId} {D : va_G} {ad : Nat → Nat} {b0 : Nat} (hA : ct_ad ad b0) : ∀ d, ct_Met l cs D ad b0 d (ct_m d)
  | 0 => fun _ _ _ _ _ h => by cases h
  | d + 1 => by
    intro M a h h' hM hr
    unfold ct_m at hr
    cases hq : ct_rn (ct_m d) M (ct_mt M).2.1 (ct_mt M).2.2.2.1 (ct_nc M) (ct_ns M a) 400 (0, gc_pad (ct_mt M).2.2.1 (gc_en a), [], h, 0, 0) with
    | none => rw [hq] at hr; cases hr
    | some y =>
      rw [hq] at hr
      obtain ⟨h1, h2⟩ := ct_rn_go _ _ _ hq
      obtain ⟨q1, q2, q3, q4, q5, q6⟩ := y
      dsimp only at hr
      by_cases hc : q3 = [] ∧ q4.length ≤ 1000 ∧ (gc_en a).length ≤ (ct_mt M).2.2.1 ∧ q5 ≤ ct_nc M ∧ q6 ≤ ct_ns M a
      · rw [if_pos hc] at hr
        cases hr
        exact ct_mk hA (ct_met hA d) hM hc.2.2.1 h2 h1 hc.1 hc.2.2.2.1 hc.2.2.2.2
      · rw [if_neg hc] at hr; cases hr
