/-! the start: what the tables and the premises give -/
section STA
variable {s : State} {b : Nat}
theorem st_w (hts : ∀ w ∈ lw_tbl, w.before #[Value.ref b] s = true) : ∀ w ∈ gc_WL, w.before #[Value.ref b] s = true := fun w hw => hts w (List.mem_filter.mp hw).1
theorem st_at (hts : ∀ w ∈ lw_tbl, w.before #[Value.ref b] s = true) {p : Nat} {w : Cond} (h : gc_at p = some w) : w.before #[Value.ref b] s = true := hts w (gc_at_in h)
theorem st_i1 : (List.range 13).all (fun ci => ct_nT.any (fun e => Nat.beq e.2.2.1 ci)) = true := by decide +kernel
theorem st_inst {ci : Nat} (h : ci < 13) {C : String} {T : u_T} {N : Nat} (hv : vwCl[ci]? = some (C, T, N)) : .instantiable C N ∈ gc_WL := by
  have h1 := List.all_eq_true.mp st_i1 ci (List.mem_range.mpr h)
  obtain ⟨e, he, h2⟩ := List.any_eq_true.mp h1
  have h3 := List.all_eq_true.mp ct_nok_all e he
  have h2 : e.2.2.1 = ci := Nat.eq_of_beq_eq_true h2
  unfold ct_nok at h3
  rw [h2, hv] at h3
  simp only [Bool.and_eq_true, decide_eq_true_eq] at h3
  exact gc_wl h3.1.2 rfl
theorem st_D (hts : ∀ w ∈ lw_tbl, w.before #[Value.ref b] s = true) : ∃ D : va_G, ∀ (c : Nat) (q : vw_C), vwCl[c]? = some q → u_Kn s q.1 q.2.1 q.2.2 (D.1 c) (D.2 c) := by
  have h : ∀ c : Nat, ∃ x : ClassId × (Nat → Nat), ∀ q : vw_C, vwCl[c]? = some q → u_Kn s q.1 q.2.1 q.2.2 x.1 x.2 := by
    intro c
    cases hv : vwCl[c]? with
    | none => exact ⟨((0 : Nat), fun _ => 0), fun q hq => by cases hq⟩
    | some q =>
      obtain ⟨C, T, N⟩ := q
      have hlt : c < 13 := (List.getElem?_eq_some_iff.mp hv).1
      obtain ⟨cC, iS, hk⟩ := u_known (st_w hts) (gc_cls hv).1 (st_w hts _ (st_inst hlt hv))
      exact ⟨(cC, iS), fun q hq => by cases hq; exact hk⟩
  obtain ⟨f, hf⟩ := Classical.axiomOfChoice h
  exact ⟨(fun c => (f c).1, fun c => (f c).2), fun c q hq => hf c q hq⟩
theorem st_ob {C : String} (h : va_AO C s) : ∃ cA : ClassId, ArrOfT s cA (.object C) ∧ va_RA s cA (.object C) := by
  obtain ⟨comp, c, k, h1, -, h2, h3, h4⟩ := Cond.arrayOver_spec h
  exact ⟨c, fun n z => ⟨fun k h => (by cases h), k, h2, comp, h3⟩, k, comp, h2, h3, h1, h4⟩
theorem st_K (hts : ∀ w ∈ lw_tbl, w.before #[Value.ref b] s = true) : ∃ (D : va_G) (cs : Nat → ClassId), va_K D vwCl (gc_ty cs) s := by
  obtain ⟨D, hD⟩ := st_D hts
  obtain ⟨c0, a0, b0⟩ : ∃ cA : ClassId, ArrOfT s cA .int ∧ va_RA s cA .int := by
    obtain ⟨cA, kA, comp, h1, h2, h3⟩ := Cond.arrayClass_spec (st_w hts _ ct_iw)
    exact ⟨cA, fun n z => ⟨fun k h => (by cases h), kA, h2, comp, h3⟩, h1⟩
  obtain ⟨c1, a1, b1⟩ : ∃ cA : ClassId, ArrOfT s cA .boolean ∧ va_RA s cA .boolean := by
    obtain ⟨cA, kA, comp, h1, h2, h3⟩ := Cond.arrayClass_spec (st_w hts _ ct_bw)
    exact ⟨cA, fun n z => ⟨fun k h => (by cases h), kA, h2, comp, h3⟩, h1⟩
  obtain ⟨c2, a2, b2⟩ := st_ob (s := s) (va_AO.of (st_at hts (p := 1031) (w := .arrayOver (.object "GreatCambric$Mourner")) (by decide +kernel)))
  obtain ⟨c3, a3, b3⟩ := st_ob (s := s) (va_AO.of (st_at hts (p := 1081) (w := .arrayOver (.object "GreatCambric$Law")) (by decide +kernel)))
  obtain ⟨c4, a4, b4⟩ := st_ob (s := s) (va_AO.of (st_at hts (p := 1198) (w := .arrayOver (.object "GreatCambric$Row")) (by decide +kernel)))
  refine ⟨D, fun i => match i with | 0 => c0 | 1 => c1 | 2 => c2 | 3 => c3 | _ => c4, hD, fun k q hk => ?_⟩
  match k, hk with
  | 0, hk => cases hk; exact ⟨a0, b0⟩
  | 1, hk => cases hk; exact ⟨a1, b1⟩
  | 2, hk => cases hk; exact ⟨a2, b2⟩
  | 3, hk => cases hk; exact ⟨a3, b3⟩
  | 4, hk => cases hk; exact ⟨a4, b4⟩
  | k + 5, hk => cases hk
theorem st_nl : ct_nl.all (fun e => ct_kT.any (fun q => decide (gc_at q.2.2.2.2.2.1 = some (.methodLinkNest (gc_os e.1) e.2.1 (ct_y e.2.2) RX11)))) = true := by decide +kernel
theorem st_cl : ct_cl.all (fun c => (List.range 6).any (fun i => decide (gc_at (7059 + i) = some (.castable (gc_os c) RX5)))) = true := by decide +kernel
theorem st_N (hts : ∀ w ∈ lw_tbl, w.before #[Value.ref b] s = true) {ad : Nat → Nat} (hR : vk_R RX2 27 "" (ad 1000) s) : ct_N ad s := by
  refine ⟨fun e he => ?_, fun c hc => ?_, va_AO.of (st_at hts (p := 1031) (by decide +kernel)), va_AO.of (st_at hts (p := 1081) (by decide +kernel)), va_AO.of (st_at hts (p := 1198) (by decide +kernel)), hR⟩
  · obtain ⟨q, -, h2⟩ := List.any_eq_true.mp (List.all_eq_true.mp st_nl e he)
    exact va_Nw.of rfl (st_at hts (of_decide_eq_true h2))
  · obtain ⟨i, -, h2⟩ := List.any_eq_true.mp (List.all_eq_true.mp st_cl c hc)
    exact va_Nw.of rfl (st_at hts (of_decide_eq_true h2))
def st_tm (i : Nat) : Term := .string RX2 (match i with | 0 => 27 | 1 => 33 | _ => 35)
theorem st_PF (hts : ∀ w ∈ lw_tbl, w.before #[Value.ref b] s = true) (hgv : (Jvm.Cond.and given_1 narrow_1).before #[Value.ref b] s = true) : ∃ (kA : Nat) (sK sV : Nat → Nat), va_Z RX11 "KIND_ABOVE" "[I" (.ref kA) (gc_A s.heap.size) s s.heap ∧ va_T .int kA 7 (fun j => .int (gc_ro 108 j)) (gc_A s.heap.size) s s.heap ∧ va_Z "java/lang/String" "COMPACT_STRINGS" "Z" (.int 1) (gc_A s.heap.size) s s.heap ∧
    vk_S 3 [0, 3, 3] [[], [119, 115, 121], [119, 110, 121]] sK sV (gc_A s.heap.size) s s.heap ∧ vk_R RX2 27 "" (sK 0) s ∧ vk_R RX2 33 "wsy" (sK 1) s ∧ vk_R RX2 35 "wny" (sK 2) s := by
  have hs := flat_of_before _ hgv
  have hA : ∀ a : Nat, a < s.heap.size → ¬ gc_A s.heap.size a := fun a h z => absurd h (Nat.not_lt.mpr z)
  have hel : ∀ j : Nat, j < 7 → (Term.elem (.static "GreatCambric" "KIND_ABOVE" "[I") (.int (Int32.ofNat j))).eval #[Value.ref b] s none [] s = some (.int (gc_ro 108 j)) := by
    intro j hj
    rcases (show j = 0 ∨ j = 1 ∨ j = 2 ∨ j = 3 ∨ j = 4 ∨ j = 5 ∨ j = 6 by omega) with rfl | rfl | rfl | rfl | rfl | rfl | rfl
    · exact va_eqt (z := -1) (hs _ (by decide +kernel))
    · exact va_eqt (z := 0) (hs _ (by decide +kernel))
    · exact va_eqt (z := 0) (hs _ (by decide +kernel))
    · exact va_eqt (z := 0) (hs _ (by decide +kernel))
    · exact va_eqt (z := 1) (hs _ (by decide +kernel))
    · exact va_eqt (z := 2) (hs _ (by decide +kernel))
    · exact va_eqt (z := 3) (hs _ (by decide +kernel))
  obtain ⟨kA, k1, k2⟩ := va_Tof (tm := .static "GreatCambric" "KIND_ABOVE" "[I") (ty := .int) (N := 7) (f := fun j => .int (gc_ro 108 j)) (by decide) (hs _ (by decide +kernel)) (va_eqt (z := 7) (hs _ (by decide +kernel))) hel hA
  obtain ⟨sK, sV, v1, v2⟩ := vk_Sof (args := #[Value.ref b]) (s := s) (N := 3) (tm := st_tm) (len := [0, 3, 3]) (byt := [[], [119, 115, 121], [119, 110, 121]]) (A := gc_A s.heap.size) (by decide)
    (fun i hi => by rcases (show i = 0 ∨ i = 1 ∨ i = 2 by omega) with rfl | rfl | rfl <;> exact hs _ (by decide +kernel))
    (fun i hi => by rcases (show i = 0 ∨ i = 1 ∨ i = 2 by omega) with rfl | rfl | rfl <;> exact hs _ (by decide +kernel))
    (fun i hi => by rcases (show i = 0 ∨ i = 1 ∨ i = 2 by omega) with rfl | rfl | rfl <;> exact hs _ (by decide +kernel))
    (fun i hi => by rcases (show i = 0 ∨ i = 1 ∨ i = 2 by omega) with rfl | rfl | rfl <;> exact hs _ (by decide +kernel))
    (fun i hi j hj => by
      rcases (show i = 0 ∨ i = 1 ∨ i = 2 by omega) with rfl | rfl | rfl
      · exact absurd hj (Nat.not_lt_zero _)
      · have hj : j < 3 := hj
        rcases (show j = 0 ∨ j = 1 ∨ j = 2 by omega) with rfl | rfl | rfl <;> exact hs _ (by decide +kernel)
      · have hj : j < 3 := hj
        rcases (show j = 0 ∨ j = 1 ∨ j = 2 by omega) with rfl | rfl | rfl <;> exact hs _ (by decide +kernel))
    (fun i j hi hj hij => by
      rcases (show i = 0 ∨ i = 1 ∨ i = 2 by omega) with rfl | rfl | rfl <;> rcases (show j = 0 ∨ j = 1 ∨ j = 2 by omega) with rfl | rfl | rfl <;> first | exact absurd rfl hij | exact .inl (hs _ (by decide +kernel)) | exact .inr (hs _ (by decide +kernel)))
    hA
  refine ⟨kA, sK, sV, va_Zof (st_at hts (p := 2210) (by decide +kernel)) (st_at hts (p := 1001) (by decide +kernel)) k1 hA, k2, va_Zof (st_at hts (p := 3042) (by decide +kernel)) (st_at hts (p := 1016) (by decide +kernel)) (va_eqt (hs _ (by decide +kernel))) hA, v1, ?_, ?_, ?_⟩
  · exact vk_R.of (st_at hts (p := 1110) (by decide +kernel)) (v2 0 (by decide))
  · exact vk_R.of (st_at hts (p := 2230) (by decide +kernel)) (v2 1 (by decide))
  · exact vk_R.of (st_at hts (p := 2231) (by decide +kernel)) (v2 2 (by decide))
end STA
