theorem q_8 : (Int32.toUInt32 8 &&& Int32.toUInt32 31) = 8 := by decide
theorem q_ush (x : Int32) : ∃ m, m < 2 ^ 24 ∧ (x.toUInt32 >>> (Int32.toUInt32 8 &&& Int32.toUInt32 31)).toInt32 = nI m := by
  rw [q_8]
  refine ⟨(x.toUInt32 >>> 8).toNat, ?_, ?_⟩
  · rw [UInt32.toNat_shiftRight, Nat.shiftRight_eq_div_pow]
    have h1 : x.toUInt32.toNat < 2 ^ 32 := UInt32.toNat_lt _
    have h2 : (8 : UInt32).toNat % 32 = 8 := by decide
    rw [h2]
    omega
  · apply Int32.toBitVec_inj.mp
    apply BitVec.eq_of_toNat_eq
    simp [nI]
    have h1 : x.toUInt32.toNat < 2 ^ 32 := UInt32.toNat_lt _
    show x.toUInt32.toNat >>> 8 = x.toUInt32.toNat >>> 8 % 4294967296
    rw [Nat.shiftRight_eq_div_pow]
    omega
def q_z (z : Int32) : Int32 := z * 1103515245 + 12345
def q_dz (z : Int32) : Int32 := (z.toUInt32 >>> (Int32.toUInt32 8 &&& Int32.toUInt32 31)).toInt32
theorem m_draw {d : Nat} {R : gR} {μ : gM} : gc_S (d + 1) 199 [.ref 83] μ R ↔ R (some (.int (q_dz (q_z (μ 84 2))))) (gc_up μ 84 2 (q_z (μ 84 2))) := by
  simp only [s199, u199_0, u199_1, u199_4, u199_5, u199_6, u199_9, u199_10, u199_11, u199_13, u199_14, u199_17, u199_18, u199_19, u199_20, u199_23, u199_24, u199_25, u199_27, u199_28, ly_kd, ly_al, ly_fv0, ly_fv1, ly_fv2, ly_fv3, ly_fv4, ly_fk, ly_ra, Option.toList, List.cons_append, List.nil_append, q_ski, q_skr, q_sku, if_true, if_false, q_v247, q_tn, true_and, q_up_same]
  exact Iff.rfl
theorem q_dz8 (z : Int32) : ∃ i, i < 8 ∧ q_dz z - q_dz z / 8 * 8 = nI i := by
  obtain ⟨m, hm, e⟩ := q_ush z
  refine ⟨m % 8, Nat.mod_lt _ (by decide), ?_⟩
  unfold q_dz
  rw [e, show (8 : Int32) = nI 8 from rfl, pk_rem (by omega) (by decide) (by decide)]
theorem q_dz16 (z : Int32) : ∃ i, i < 16 ∧ q_dz z - q_dz z / 16 * 16 = nI i := by
  obtain ⟨m, hm, e⟩ := q_ush z
  refine ⟨m % 16, Nat.mod_lt _ (by decide), ?_⟩
  unfold q_dz
  rw [e, show (16 : Int32) = nI 16 from rfl, pk_rem (by omega) (by decide) (by decide)]
theorem q_ok_2 {D : Nat → Int32} (hok : q_ok D) {z : Int32} : q_ok (upd D 2 z) := by
  obtain ⟨⟨n, hn, hn8⟩, ⟨y, hy, hy2⟩, hwet, htorn, hlist, hm, hwf⟩ := hok
  have o : ∀ j, j ≠ 2 → upd D 2 z j = D j := fun j hj => if_neg hj
  refine ⟨⟨n, by rw [o _ (by omega)]; exact hn, hn8⟩, ⟨y, by rw [o _ (by omega)]; exact hy, hy2⟩, fun c hc => by rw [o _ (by omega)]; exact hwet c hc, fun c hc => by rw [o _ (by omega)]; exact htorn c hc, fun p hp => by rw [o _ (by omega)]; exact hlist p hp, fun i hi => ?_, fun u hu => ?_⟩
  · rw [o _ (by omega), o _ (by omega), o _ (by omega), o _ (by omega)]; exact hm i hi
  · obtain ⟨k, hk, hk2⟩ := hwf u hu
    refine ⟨k, by rw [o _ (by omega)]; exact hk, ?_⟩
    have : q_code (upd D 2 z) u = q_code D u := funext fun j => o _ (by omega)
    rw [this]; exact hk2
/-- a year with who comes and where drawn -/
def q_ly (D : Nat → Int32) : Nat → Int32 :=
  upd (upd (upd D 2 (q_z (D 2))) 2 (q_z (q_z (D 2)))) (37 + (D 1 - D 1 / 6 * 6).toNatClampNeg) (q_dz (q_z (D 2)) - q_dz (q_z (D 2)) / 8 * 8)
def q_lb (D : Nat → Int32) : Nat → Int32 :=
  if 0 ≤ q_dz (q_z (D 2)) - q_dz (q_z (D 2)) / 8 * 8 ∧ q_dz (q_z (D 2)) - q_dz (q_z (D 2)) / 8 * 8 ≤ D 0 - 1 then
    upd (q_ly D) (46 + 4 * (q_dz (q_z (D 2)) - q_dz (q_z (D 2)) / 8 * 8).toNatClampNeg) (q_dz (q_z (q_z (D 2))) - q_dz (q_z (q_z (D 2))) / 16 * 16)
  else q_ly D
def q_lo (D : Nat → Int32) : Nat → (Nat → Int32)
  | 0 => D
  | n + 1 => q_yr (q_lb (q_lo D n))
theorem q_y6 {D : Nat → Int32} (hok : q_ok D) : ∃ p, p < 6 ∧ D 1 - D 1 / 6 * 6 = nI p := by
  obtain ⟨-, ⟨y, hy, hy2⟩, -⟩ := hok
  exact ⟨y % 6, Nat.mod_lt _ (by decide), by rw [hy, show (6 : Int32) = nI 6 from rfl, pk_rem (by omega) (by decide) (by decide)]⟩
theorem q_ok_ly {D : Nat → Int32} (hok : q_ok D) : q_ok (q_ly D) ∧ q_ly D 1 = D 1 ∧ q_ly D 0 = D 0 := by
  obtain ⟨p, hp, ep⟩ := q_y6 hok
  obtain ⟨w, hw, ew⟩ := q_dz8 (q_z (D 2))
  unfold q_ly
  rw [ep, nI_clamp (by omega), ew]
  refine ⟨q_ok_upd (q_ok_2 (q_ok_2 hok)) (by omega) (fun _ => by omega) (fun _ _ => by omega) (fun _ _ => by omega) (fun _ _ => by omega) (fun _ _ => by omega), ?_, ?_⟩
  · unfold upd; rw [if_neg (by omega), if_neg (by decide), if_neg (by decide)]
  · unfold upd; rw [if_neg (by omega), if_neg (by decide), if_neg (by decide)]
theorem q_ok_lb {D : Nat → Int32} (hok : q_ok D) : q_ok (q_lb D) ∧ q_lb D 1 = D 1 := by
  obtain ⟨h1, h2, h3⟩ := q_ok_ly hok
  obtain ⟨w, hw, ew⟩ := q_dz8 (q_z (D 2))
  obtain ⟨c, hc, ec⟩ := q_dz16 (q_z (q_z (D 2)))
  unfold q_lb
  rw [ew, ec]
  by_cases h : 0 ≤ nI w ∧ nI w ≤ D 0 - 1
  · rw [if_pos h, nI_clamp (by omega)]
    refine ⟨q_ok_upd h1 (by omega) (fun _ => by omega) (fun _ _ => by omega) (fun _ _ => by omega) (fun _ _ => by omega) (fun _ _ => by omega), ?_⟩
    unfold upd; rw [if_neg (by omega)]; exact h2
  · rw [if_neg h]; exact ⟨h1, h2⟩
theorem q_ok_lo {D : Nat → Int32} {y : Nat} (hok : q_ok D) (hy : D 1 = nI y) : ∀ n, y + n ≤ 20000 → q_ok (q_lo D n) ∧ q_lo D n 1 = nI (y + n)
  | 0, _ => ⟨hok, hy⟩
  | n + 1, h => by
    obtain ⟨h1, h2⟩ := q_ok_lo hok hy n (by omega)
    obtain ⟨k1, k2⟩ := q_ok_lb h1
    have hh : y + n < 20000 := by omega
    exact q_ok_yr k1 (k2.trans h2) hh
theorem q_fr_up {μ : gM} {j : Nat} {x : Int32} : q_fr μ (gc_up μ 84 j x) := fun _ h _ _ _ => if_neg h
