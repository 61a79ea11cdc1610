/-! the first world -/
def st_h : ct_H := ct_v4.2.2.2.1
/-- where an object was made, and which was made there -/
def st_pi (o : Nat) : Nat := if o < 10 then o else if o = 10 then 18 else if o ≤ 18 then o - 1 else if o ≤ 26 then o else if o ≤ 30 then o + 36 else if o ≤ 66 then o - 4 else o
def st_si (i : Nat) : Nat := if i < 10 then i else if i ≤ 17 then i + 1 else if i = 18 then 10 else if i ≤ 26 then i else if i ≤ 62 then i + 4 else if i ≤ 66 then i - 36 else if i = 1000 then 102 else i
def st_v (v : Value) : Int32 := match v with
  | .int x => x
  | .ref i => nI (st_si i)
  | _ => 0
def st_m0 : gM := fun o j => if o < 102 then st_v ((st_h.getD (st_pi o) (0, 0, [])).2.2.getD j .null) else 0
def st_mu (xs : Nat → Int32) (L : Nat) : gM := fun o j => if o = 109 then xs j else if o = 110 then nI L else st_m0 o j
theorem st_mu0 {xs : Nat → Int32} {L o : Nat} (h : o < 102) : st_mu xs L o = st_m0 o := by
  funext j
  unfold st_mu
  rw [if_neg (by omega), if_neg (by omega)]
def st_ad (b0 : Nat) (sK sV : Nat → Nat) (kA b : Nat) : Nat → Nat := fun o => if o < 102 then b0 + st_pi o else if o < 105 then sK (o - 102) else if o < 108 then sV (o - 105) else if o = 108 then kA else b
def st_ac (b0 : Nat) (sK : Nat → Nat) (b : Nat) : Nat → Nat := fun i => if i < 1000 then b0 + i else if i = 1000 then sK 0 else b
theorem st_acA {b0 : Nat} {sK : Nat → Nat} {b : Nat} : ct_ad (st_ac b0 sK b) b0 := fun i hi => if_pos hi
theorem st_pis : ∀ o, o < 102 → st_si (st_pi o) = o ∧ st_pi o < 102 := by decide +kernel
theorem st_adA {b0 : Nat} {sK sV : Nat → Nat} {kA b : Nat} : gc_ad (st_ad b0 sK sV kA b) b0 := by
  have e : ∀ i, i < 102 → st_ad b0 sK sV kA b i = b0 + st_pi i := fun i hi => if_pos hi
  refine ⟨fun i j hi hj h => ?_, fun i hi => by rw [e i hi]; omega⟩
  rw [e i hi, e j hj] at h
  have h2 : st_pi i = st_pi j := by omega
  rw [← (st_pis i hi).1, ← (st_pis j hj).1, h2]
def st_tr (v : Value) : Value := match v with
  | .ref r => if r < 102 then .ref (st_pi r) else .ref 1000
  | v => v
def st_rf (v : Value) : Bool := match v with
  | .ref r => Nat.ble r 102
  | _ => true
def st_nr (v : Value) : Bool := match v with
  | .ref _ => false
  | _ => true
def st_ok (o : Nat) : Bool := match st_h[st_pi o]? with
  | none => false
  | some c => Nat.beq c.1 (gc_kd o) && (if gc_kd o < 20 then decide ((List.range (gc_o o).2.length).map (fun j => st_tr (gc_fv o j st_m0)) = c.2.2) && (List.range (gc_o o).2.length).all (fun j => st_rf (gc_fv o j st_m0)) else Nat.beq c.2.1 (gc_al o) && (if gc_kd o < 22 then c.2.2.all st_nr else (List.range (gc_al o)).all (fun j => decide (c.2.2.getD j .null = .ref (st_pi (gc_ra o j))) && Nat.blt (gc_ra o j) 102)))
set_option maxRecDepth 100000 in
theorem st_ok_all : (List.range 102).all st_ok = true := by decide +kernel
theorem st_trs {b0 : Nat} {sK sV : Nat → Nat} {kA b : Nat} {v : Value} (h : st_rf v = true) : gc_tr (st_ac b0 sK b) (st_tr v) = gc_tr (st_ad b0 sK sV kA b) v := by
  cases v <;> try rfl
  rename_i r
  have h : r ≤ 102 := Nat.le_of_ble_eq_true h
  show gc_tr _ (if r < 102 then .ref (st_pi r) else .ref 1000) = .ref (st_ad b0 sK sV kA b r)
  by_cases z : r < 102
  · rw [if_pos z]
    show Value.ref (st_ac b0 sK b (st_pi r)) = _
    have := (st_pis r z).2
    unfold st_ac st_ad
    rw [if_pos (by omega), if_pos z]
  · obtain rfl : r = 102 := Nat.le_antisymm h (Nat.not_lt.mp z)
    rfl
theorem st_av {cA : ClassId} {n : Nat} {f g : Nat → Value} (h : ∀ j, j < n → f j = g j) : arrV cA n f = arrV cA n g := by
  unfold arrV
  congr 1
  congr 1
  funext j
  exact h j.val j.isLt
theorem st_ent {D : va_G} {cs : Nat → ClassId} {xs : Nat → Int32} {L b0 : Nat} {sK sV : Nat → Nat} {kA b : Nat} {H : Heap} (hw : ct_wd D cs (st_ac b0 sK b) b0 st_h H) : va_P D vwCl (gc_w cs (st_ad b0 sK sV kA b) (st_mu xs L)) H := by
  intro o q hq
  obtain ⟨ho, rfl⟩ := gc_w_in hq
  have hok := List.all_eq_true.mp st_ok_all o (List.mem_range.mpr ho)
  unfold st_ok at hok
  cases hc : st_h[st_pi o]? with
  | none => rw [hc] at hok; cases hok
  | some c =>
    rw [hc] at hok
    obtain ⟨t, n, fs⟩ := c
    dsimp only at hok
    rw [Bool.and_eq_true] at hok
    obtain ⟨h1, h2⟩ := hok
    have h1 : t = gc_kd o := Nat.eq_of_beq_eq_true h1
    subst h1
    have hat := hw.2.2 _ _ (ct_at0 (cs := cs) (ad := st_ac b0 sK b) hc)
    have hpl := (st_pis o ho).2
    have ea : st_ac b0 sK b (st_pi o) = st_ad b0 sK sV kA b o := by
      unfold st_ac st_ad
      rw [if_pos (by omega), if_pos ho]
    rw [ea] at hat
    have em : ∀ j, st_m0 o j = st_v (fs.getD j .null) := by
      intro j
      unfold st_m0
      have e : st_h.getD (st_pi o) (0, 0, []) = (gc_kd o, n, fs) := by rw [List.getD_eq_getElem?_getD, hc]; rfl
      rw [if_pos ho, e]
    unfold gc_ent
    unfold ct_c at hat
    dsimp only at hat
    by_cases hk : gc_kd o < 20
    · rw [if_pos hk] at h2 hat ⊢
      rw [Bool.and_eq_true] at h2
      obtain ⟨h3, h4⟩ := h2
      have h3 := of_decide_eq_true h3
      have e : fs.map (gc_tr (st_ac b0 sK b)) = (List.range (gc_o o).2.length).map (fun j => gc_tr (st_ad b0 sK sV kA b) (gc_fv o j (st_mu xs L))) := by
        rw [← h3, List.map_map]
        refine List.map_congr_left (fun j hj => ?_)
        have h5 := List.all_eq_true.mp h4 j hj
        show gc_tr (st_ac b0 sK b) (st_tr (gc_fv o j st_m0)) = _
        rw [gc_fvc (st_mu0 (xs := xs) (L := L) ho)]
        exact st_trs h5
      rw [← e]
      exact hat
    · rw [if_neg hk] at h2 hat ⊢
      rw [Bool.and_eq_true] at h2
      obtain ⟨h3, h4⟩ := h2
      have h3 : n = gc_al o := Nat.eq_of_beq_eq_true h3
      subst h3
      by_cases hk2 : gc_kd o < 22
      · rw [if_pos hk2] at h4 hat ⊢
        have e : (fun j => ct_I (fs.getD j .null)) = st_mu xs L o := by
          rw [st_mu0 ho]
          funext j
          rw [em]
          rw [List.getD_eq_getElem?_getD]
          cases hj : fs[j]? with
          | none => rfl
          | some v =>
            have := List.all_eq_true.mp h4 v (List.mem_of_getElem? hj)
            show ct_I v = st_v v
            cases v <;> first | rfl | (cases this; done)
        rw [← e]
        exact hat
      · rw [if_neg hk2] at h4 hat ⊢
        have hat : H[st_ad b0 sK sV kA b o]? = some (vp_cell (cs (gc_kd o - 20)) (gc_al o, .inr (.inr (.inr (.inr (fun j => ct_R (st_ac b0 sK b) (fs.getD j .null))))))) := hat
        show H[st_ad b0 sK sV kA b o]? = some (vp_cell (cs (gc_kd o - 20)) (gc_al o, .inr (.inr (.inr (.inr (fun j => some (st_ad b0 sK sV kA b (gc_ra o j))))))))
        rw [hat, vp_cell_q, vp_cell_q]
        congr 1
        refine st_av (fun j hj => ?_)
        have h5 := List.all_eq_true.mp h4 j (List.mem_range.mpr hj)
        rw [Bool.and_eq_true] at h5
        have h6 := of_decide_eq_true h5.1
        have h7 : gc_ra o j < 102 := gc_blt h5.2
        rw [h6]
        show va_rf (some (st_ac b0 sK b (st_pi (gc_ra o j)))) = va_rf (some (st_ad b0 sK sV kA b (gc_ra o j)))
        have := (st_pis _ h7).2
        unfold st_ac st_ad
        rw [if_pos (by omega), if_pos h7]
/-! it keeps what holds between two calls -/
theorem st_z1 : (∀ c, c < 16 → st_m0 84 (5 + c) = 0 ∧ st_m0 84 (21 + c) = 0 ∧ st_m0 32 c = 0) ∧ (∀ p, p < 6 → st_m0 84 (37 + p) = nI p ∧ st_m0 34 p = nI p) ∧ (∀ i, i < 8 → st_m0 84 (43 + 4 * i) = 0 ∧ st_m0 84 (44 + 4 * i) = 0 ∧ st_m0 84 (45 + 4 * i) = 0 ∧ st_m0 84 (46 + 4 * i) = 0 ∧ st_m0 35 i = 0 ∧ st_m0 36 i = 0 ∧ st_m0 37 i = 0 ∧ st_m0 38 i = 0) := by decide +kernel
theorem st_z2 : st_m0 84 0 = 0 ∧ st_m0 84 1 = 0 ∧ st_m0 84 2 = 1 ∧ st_m0 84 3 = 0 ∧ st_m0 84 4 = 0 ∧ st_m0 84 75 = 0 ∧ st_m0 84 76 = 0 ∧ st_m0 31 11 = 0 ∧ st_m0 31 12 = 0 ∧ st_m0 31 13 = 0 ∧ st_m0 31 14 = 1 ∧ st_m0 12 1 = 0 ∧ st_m0 16 1 = 0 ∧ st_m0 39 1 = 0 ∧ st_m0 41 1 = 0 ∧ st_m0 0 9 = 0 ∧ st_m0 83 3 = 0 ∧ st_m0 77 1 = 0 ∧ st_m0 83 22 = 0 := by decide +kernel
theorem st_z3 : (∀ s, s < 4 → st_m0 (68 + 2 * s) 2 = 0 ∧ st_m0 98 s = 0 ∧ st_m0 99 s = 0 ∧ st_m0 (68 + 2 * s) 1 = 0) ∧ (∀ k, k < 6 → st_m0 79 k = 0 ∧ st_m0 87 k = 0) := by decide +kernel
theorem st_z4 : ∀ s, s < 4 → ∀ j, j < 40 → st_m0 (69 + 2 * s) j = 0 ∧ st_m0 100 (40 * s + j) = 0 := by decide +kernel
theorem st_q0 {p : Nat → Bool} (h : ∀ c, c < 16 → p c = false) : q_set p 16 = 0 := by
  refine b_ext (fun i hi => ?_)
  rw [q_set_bt 16 (by omega) i hi, b_0]
  by_cases z : i < 16
  · rw [h i z, Bool.and_false]
  · rw [decide_eq_false z, Bool.false_and]
theorem st_I0 : q_I st_m0 := by
  obtain ⟨z1, z2, z3⟩ := st_z1
  obtain ⟨a0, a1, a2, a3, a4, a5, a6, a7, a8, a9, a10, a11, a12, a13, a14, a15, a16, a17, a18⟩ := st_z2
  obtain ⟨s1, s2⟩ := st_z3
  have n0 : (0 : Int32) = nI 0 := rfl
  have l0 : ∀ u, u < 2 → st_m0 84 (75 + u) = 0 := fun u hu => by
    rcases (show u = 0 ∨ u = 1 by omega) with rfl | rfl
    · exact a5
    · exact a6
  refine ⟨⟨⟨⟨0, a0, by omega⟩, ⟨0, a1, by omega⟩, fun c hc => ⟨0, (z1 c hc).1, by omega⟩, fun c hc => .inl (z1 c hc).2.1, fun p hp => ⟨p, (z2 p hp).1, by omega⟩, fun i hi => ⟨⟨0, (z3 i hi).1, by omega⟩, ⟨0, (z3 i hi).2.1, by omega⟩, ⟨0, (z3 i hi).2.2.1, by omega⟩, ⟨0, (z3 i hi).2.2.2.1, by omega⟩⟩, fun u hu => ⟨0, l0 u hu, by omega, fun n hn => absurd hn (by omega), fun hn => absurd hn (by omega)⟩⟩, ⟨0, a1, by omega⟩, ⟨fun c hc => ?_, fun p hp => ?_, fun i hi => ?_, fun i hi => ?_, fun i hi => ?_, fun i hi => ?_, ?_, ?_, ?_⟩, ?_, fun u hu => ?_, ⟨0, a3, by omega, a13, fun j hj => absurd hj (by omega)⟩, ⟨0, a4, by omega, a14, fun j hj => absurd hj (by omega)⟩⟩, ⟨?_, fun hz => absurd a15 hz⟩, fun s hs => ?_, ⟨0, by omega, a17, a18, fun j hj => absurd hj (by omega)⟩, fun k h1 h2 => ?_⟩
  · rw [(z1 c hc).1]; exact (z1 c hc).2.2
  · rw [(z2 p hp).1]; exact (z2 p hp).2
  · rw [(z3 i hi).1]; exact (z3 i hi).2.2.2.2.1
  · rw [(z3 i hi).2.1]; exact (z3 i hi).2.2.2.2.2.1
  · rw [(z3 i hi).2.2.1]; exact (z3 i hi).2.2.2.2.2.2.1
  · rw [(z3 i hi).2.2.2.1]; exact (z3 i hi).2.2.2.2.2.2.2
  · rw [a7, st_q0 (fun c hc => by rw [(z1 c hc).2.1]; rfl)]
  · rw [a8, a1]
  · rw [a9, a0]
  · rw [a10, a2]
  · refine ⟨?_, fun n n5 hn j hj => ?_⟩
    · rw [l0 u hu]
      rcases (show u = 0 ∨ u = 1 by omega) with rfl | rfl
      · exact a11
      · exact a12
    · rw [l0 u hu] at hn
      have : (0 : Nat) = n := (nI_eq (by omega) (by omega)).mp (show nI 0 = nI n from hn)
      omega
  · rw [a15, a16]
  · obtain ⟨b1, b2, b3, b4⟩ := s1 s hs
    refine ⟨by rw [b1, b2], .inl b2, ⟨0, by omega, b3, b4⟩, fun j hj => ?_⟩
    obtain ⟨c1, c2⟩ := st_z4 s hs j hj
    rw [c1, c2]
  · obtain ⟨c1, c2⟩ := s2 k (by omega)
    rw [c1, c2]
theorem st_I {xs : Nat → Int32} {L : Nat} : q_I (st_mu xs L) := by
  obtain ⟨h1, h2, h3, h4, h5⟩ := st_I0
  have e : ∀ o, o < 102 → st_mu xs L o = st_m0 o := fun o ho => st_mu0 ho
  refine ⟨?_, q_im_mem h2 (by rw [e 0 (by omega)]) (by rw [e 83 (by omega)]) (e 85 (by omega)) (fun o ho => e o (by omega)), q_sh_mem h3 (fun o ho => e o (by omega)), q_tr_mem h4 (e _ (by omega)) (by rw [e 83 (by omega)]) (e _ (by omega)) (e _ (by omega)), q_rf_mem h5 (e _ (by omega)) (e _ (by omega))⟩
  rw [e 84 (by omega)]
  exact q_CL_mem h1 (fun o ho => e o (by omega))
