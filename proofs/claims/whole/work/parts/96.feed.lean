/-! bytes of a word -/
theorem wb_tb (n : Nat) : (lN n).toBitVec = BitVec.ofNat 64 n := rfl
theorem wb_inj {a b : Int64} (h : a.toBitVec = b.toBitVec) : a = b := Int64.toBitVec_inj.mp h
theorem wb_tn {n : Nat} (h : n < 2 ^ 64) : (lN n).toBitVec.toNat = n := by rw [wb_tb, BitVec.toNat_ofNat, Nat.mod_eq_of_lt h]
theorem wb_of (x : Int64) : ∃ n, n < 2 ^ 64 ∧ x = lN n := ⟨x.toBitVec.toNat, x.toBitVec.isLt, wb_inj (by rw [wb_tb]; simp)⟩
theorem wb_of32 (x : Int32) : ∃ n, n < 2 ^ 32 ∧ x = nI n := ⟨x.toBitVec.toNat, x.toBitVec.isLt, Int32.toBitVec_inj.mp (by show _ = BitVec.ofNat 32 _; simp)⟩
theorem wb_c : ∀ k, k < 64 → ((nI k).toInt64 &&& 63) = lN k := by decide +kernel
theorem wb_cu : ∀ k, k < 64 → ((nI k).toInt64.toUInt64 &&& Int64.toUInt64 63) = UInt64.ofNat k := by decide +kernel
theorem wb_sm : ∀ k, k < 64 → (BitVec.ofNat 64 k).smod 64 = BitVec.ofNat 64 k := by decide +kernel

def q_by (x : Int64) (k : Nat) : Nat := x.toBitVec.toNat / 2 ^ (8 * k) % 256
theorem q_by_lt {x : Int64} {k : Nat} : q_by x k < 256 := Nat.mod_lt _ (by decide)
theorem q_by_tb {x : Int64} {k i : Nat} : (q_by x k).testBit i = (decide (i < 8) && x.toBitVec.getLsbD (8 * k + i)) := by
  show (x.toBitVec.toNat / 2 ^ (8 * k) % 2 ^ 8).testBit i = _
  rw [Nat.testBit_mod_two_pow, Nat.testBit_div_two_pow]
  show _ = (decide (i < 8) && x.toBitVec.toNat.testBit (8 * k + i))
  rw [Nat.add_comm]
theorem q_by8 : ∀ k, k < 8 → (8 : Int32) * nI k = nI (8 * k) := by decide +kernel
theorem q_t32 {x : Int64} {i : Nat} (hi : i < 32) : bt x.toInt32 i = x.toBitVec.getLsbD i := by
  unfold bt
  rw [Int64.toBitVec_toInt32, BitVec.getLsbD_signExtend, decide_eq_true hi, Bool.true_and, if_pos (by omega)]
theorem q_bu {x : Int64} {k : Nat} (hk : k < 8) : ((x.toUInt64 >>> (((8 : Int32) * nI k).toInt64.toUInt64 &&& Int64.toUInt64 63)).toInt64).toInt32 &&& 255 = nI (q_by x k) := b_ext (fun i hi => by
  rw [b_and, b_255, b_nI hi, q_by_tb, q_by8 k hk, wb_cu (8 * k) (by omega)]
  have e : bt ((x.toUInt64 >>> UInt64.ofNat (8 * k)).toInt64.toInt32) i = x.toBitVec.getLsbD (8 * k + i) := by
    rw [q_t32 hi]
    show (x.toUInt64 >>> UInt64.ofNat (8 * k)).toBitVec.getLsbD i = _
    have e2 : (x.toUInt64 >>> UInt64.ofNat (8 * k)).toBitVec = x.toBitVec >>> (8 * k) := by
      apply BitVec.eq_of_toNat_eq
      show (x.toUInt64 >>> UInt64.ofNat (8 * k)).toNat = _
      rw [UInt64.toNat_shiftRight, BitVec.toNat_ushiftRight, UInt64.toNat_ofNat', Nat.mod_eq_of_lt (show 8 * k < 2 ^ 64 by omega), Nat.mod_eq_of_lt (show 8 * k < 64 by omega)]
      rfl
    rw [e2, BitVec.getLsbD_ushiftRight]
  rw [e, Bool.and_comm])
theorem q_bs64 {x : Int64} {k : Nat} (hk : k < 8) : ((x >>> (((8 : Int32) * nI k).toInt64 &&& 63)) &&& 255).toInt32 = nI (q_by x k) := b_ext (fun i hi => by
  rw [b_nI hi, q_by_tb, q_by8 k hk, wb_c (8 * k) (by omega)]
  rw [q_t32 hi, Int64.toBitVec_and, BitVec.getLsbD_and, Int64.toBitVec_shiftRight, wb_tb, wb_sm (8 * k) (by omega)]
  have h255 : ∀ i, i < 32 → (255 : Int64).toBitVec.getLsbD i = decide (i < 8) := by decide +kernel
  rw [h255 i hi]
  show ((x.toBitVec.sshiftRight (BitVec.ofNat 64 (8 * k)).toNat).getLsbD i && _) = _
  rw [BitVec.toNat_ofNat, Nat.mod_eq_of_lt (show 8 * k < 2 ^ 64 by omega), BitVec.getLsbD_sshiftRight]
  by_cases z : i < 8
  · rw [decide_eq_true z, if_pos (show 8 * k + i < 64 by omega)]
    have : ¬ 64 ≤ i := by omega
    simp [this]
  · rw [decide_eq_false z]; simp)
theorem q_ok_197 {D D' : Nat → Int32} (hok : q_ok D) (o : ∀ j, j < 197 → j ≠ 3 → D' j = D j) : q_ok D' := by
  obtain ⟨⟨n, hn, hn8⟩, ⟨y, hy, hy2⟩, hwet, htorn, hlist, hm, hwf⟩ := hok
  refine ⟨⟨n, by rw [o _ (by omega) (by omega)]; exact hn, hn8⟩, ⟨y, by rw [o _ (by omega) (by omega)]; exact hy, hy2⟩, fun c hc => by rw [o _ (by omega) (by omega)]; exact hwet c hc, fun c hc => by rw [o _ (by omega) (by omega)]; exact htorn c hc, fun p hp => by rw [o _ (by omega) (by omega)]; exact hlist p hp, fun i hi => ?_, fun u hu => ?_⟩
  · rw [o _ (by omega) (by omega), o _ (by omega) (by omega), o _ (by omega) (by omega), o _ (by omega) (by omega)]; exact hm i hi
  · obtain ⟨k, hk, hk2⟩ := hwf u hu
    have h50 := hk2.1
    refine ⟨k, by rw [o _ (by omega) (by omega)]; exact hk, ?_⟩
    have e : ∀ i, i < 50 → q_code D' u i = q_code D u i := fun i hi => o _ (by omega) (by omega)
    have dp : ∀ n, n ≤ 50 → q_dp (q_code D' u) n = q_dp (q_code D u) n := by
      intro n
      induction n with
      | zero => intro _; rfl
      | succ n ih =>
        intro h
        unfold q_dp
        rw [e n (by omega), ih (by omega)]
    refine ⟨h50, fun n hn => ?_, fun hp => ?_⟩
    · rw [e n (by omega), dp n (by omega)]; exact hk2.2.1 n hn
    · rw [dp k h50]; exact hk2.2.2 hp
theorem q_I_tape {μ μ1 μ2 : gM} (I : q_I μ) (f1 : ∀ o, o ≠ 39 → o ≠ 40 → μ1 o = μ o) (f2 : ∀ o, ¬ q_scr o → o ≠ 84 → o ≠ 83 → μ2 o = μ1 o) (e3 : μ2 83 3 = μ 83 3) (e22 : μ2 83 22 = μ 83 22) (hD : ∀ j, j < 197 → j ≠ 3 → μ2 84 j = μ 84 j) (tp : q_tp 31 (μ2 84) μ2) : q_I μ2 := by
  have f : ∀ o, ¬ q_scr o → o ≠ 84 → o ≠ 83 → o ≠ 39 → o ≠ 40 → μ2 o = μ o := fun o a b c d e => (f2 o a b c).trans (f1 o d e)
  refine q_I_now I (fun o a b c d _ _ _ _ => f o a c d (by omega) (by omega)) e3 e22 ?_
  obtain ⟨ok, ⟨y, hy, hy2⟩, hR, hz, hL, -, ⟨ww, w1, w2, w3, w4⟩⟩ := I.1
  refine ⟨q_ok_197 ok hD, ⟨y, by rw [hD _ (by omega) (by omega)]; exact hy, hy2⟩, q_R_mem (q_R_D hR (fun j a b c e => hD j (by omega) (by omega))) (fun o a b c => f o (by unfold q_scr; omega) (by omega) (by omega) (by omega) (by omega)), ?_, fun u hu => ?_, tp, ⟨ww, by rw [hD _ (by omega) (by omega)]; exact w1, w2, ?_, fun j hj => ?_⟩⟩
  · rw [f 31 (by unfold q_scr; omega) (by omega) (by omega) (by omega) (by omega), hD 2 (by omega) (by omega)]; exact hz
  · obtain ⟨a, b⟩ := hL u hu
    rw [f (11 + 4 * u + 1) (by unfold q_scr; omega) (by omega) (by omega) (by omega) (by omega), f (11 + 4 * u + 2) (by unfold q_scr; omega) (by omega) (by omega) (by omega) (by omega), hD (75 + u) (by omega) (by omega)]
    refine ⟨a, fun n n5 hn j hj => ?_⟩
    rw [b n n5 hn j hj]
    congr 1
    exact (hD _ (by omega) (by omega)).symm
  · rw [f _ (by unfold q_scr; omega) (by omega) (by omega) (by omega) (by omega)]; exact w3
  · rw [f _ (by unfold q_scr; omega) (by omega) (by omega) (by omega) (by omega), hD _ (by omega) (by omega)]; exact w4 j hj
set_option maxHeartbeats 1000000 in
theorem p_feed {x : Int64} {n : Int32} : q_P 88 168 [.ref 0, .long x, .int n] [.ref 83, .long x, .int n] := by
  intro μ R I hk
  obtain ⟨ok, ⟨y, hy, hy2⟩, hR, hL⟩ := q_c31 I
  obtain ⟨t, t1, t2, t3, t4⟩ := I.1.2.2.2.2.2.1
  have t3 : μ 39 1 = nI t := t3
  simp only [s88, u88_0, u88_1, u88_2, u88_5, u88_6, u88_8, u88_11, u88_12, u88_13, u88_16, u88_17, u88_18, u88_21, u88_24, u88_27, u88_28, u88_29, u88_31, u88_34, u88_35, u88_36, u88_39, u88_40, u88_41, u88_45, u88_46, u88_49, u88_50, u88_53, u88_56, u88_57, u88_59, u88_61, u88_62, u88_63, u88_64, u88_67, u88_68, u88_71, u88_74, u88_77, u88_78, u88_81, u88_84, u88_87, ly_kd, ly_al, ly_fv0, ly_fv1, ly_fv2, ly_fv3, ly_fv4, ly_fk, ly_ra, Option.toList, List.cons_append, List.nil_append, q_ski, q_skr, q_sku, if_true, if_false, t_upTo, t_isCell, t_isMourner, t_isKM, t_isUse, t_isSheet, t_ref1, t_ref2, t_ref3, t_ref4, t_ref5, q_b0, q_not, and_self]
  have ref : ¬ (1 ≤ n ∧ n ≤ 8) → R (some (.int (-1000000001))) (gc_up μ 79 1 (μ 79 1 + 1)) := fun hg => by
    refine hk _ _ (q_hi_up q_hi.rf (by omega)) (fun R2 hr2 => ?_)
    simp only [s168, u168_0, u168_1, u168_2, u168_3, u168_6, u168_9, u168_12, u168_13, u168_14, u168_17, u168_18, u168_19, u168_22, u168_23, u168_24, u168_25, u168_26, u168_28, u168_31, u168_32, u168_33, u168_36, u168_37, u168_38, u168_42, u168_43, u168_46, u168_47, u168_50, u168_53, u168_54, u168_57, u168_58, u168_59, u168_60, u168_61, u168_63, u168_65, u168_66, u168_67, u168_70, u168_71, u168_72, u168_73, u168_74, u168_77, u168_78, u168_79, u168_80, u168_81, u168_82, u168_83, u168_86, u168_89, u168_90, u168_93, u168_94, u168_95, ly_kd, ly_al, ly_fv0, ly_fv1, ly_fv2, ly_fv3, ly_fv4, ly_fk, ly_ra, Option.toList, List.cons_append, List.nil_append, q_ski, q_skr, q_sku, if_true, if_false, m_in, m_isCell, m_isMourner, m_isKm, m_isSheet, m_f1, m_f2, m_f3, m_f4, m_f5, q_b0, q_not, and_self, q_wl0, q_wl1, q_wl48, q_wu1, q_wu2, q_wu3, q_wu5, q_wu6, q_wu7, q_wu8, q_wu15, q_wu30, q_wu40, q_wu57, q_wu60, q_wu69, q_wu99, q_wu1584, fa_wide_le, q_up_o (show (84 : Nat) ≠ 79 by decide), hg]
    exact q_P_ref I (by omega) q_fx.rf.fy q_fx.rf.fy hr2
  by_cases h1 : n < 1
  · simp only [h1, if_true]
    exact ref (fun z => absurd h1 (Int32.not_lt.mpr z.1))
  · by_cases h2 : n ≤ 8
    · obtain ⟨k, hk8, rfl⟩ := q_rng (n := 8) (K := 8) rfl ⟨Int32.le_trans (by decide) (Int32.not_lt.mp h1), h2⟩
      have hin : 1 ≤ nI k ∧ nI k ≤ 8 := ⟨Int32.not_lt.mp h1, h2⟩
      by_cases h3 : t + k ≤ 50
      · have g3 : nI (t + k) ≤ 50 := (show nI (t + k) ≤ nI 50 from nI_le h3 (by omega))
        simp only [h1, h2, if_true, if_false, t3, nI_add, g3]
        have main : ∀ m i, i + m = k → ∀ μ1, (∀ o, o ≠ 39 → o ≠ 40 → μ1 o = μ o) → μ1 39 1 = nI (t + i) → (∀ j, j < t → μ1 40 j = μ 40 j) → (∀ j, j < i → μ1 40 (t + j) = nI (q_by x j)) → gc_W (gc_S (99)) cX11_feed 11 0 R 43 [.ref 0, .long x, .retAddr 1, .int (nI k), .int (nI i)] [] μ1 := by
          intro m
          induction m with
          | zero =>
            intro i hi μ1 f1 l1 a1 b1
            have hi : i = k := hi
            subst hi
            refine (u88_43).mpr ?_
            simp only [u88_0, u88_1, u88_2, u88_5, u88_6, u88_8, u88_11, u88_12, u88_13, u88_16, u88_17, u88_18, u88_21, u88_24, u88_27, u88_28, u88_29, u88_31, u88_34, u88_35, u88_36, u88_39, u88_40, u88_41, u88_45, u88_46, u88_49, u88_50, u88_53, u88_56, u88_57, u88_59, u88_61, u88_62, u88_63, u88_64, u88_67, u88_68, u88_71, u88_74, u88_77, u88_78, u88_81, u88_84, u88_87, ly_kd, ly_al, ly_fv0, ly_fv1, ly_fv2, ly_fv3, ly_fv4, ly_fk, ly_ra, Option.toList, List.cons_append, List.nil_append, q_ski, q_skr, q_sku, if_true, if_false, show nI i ≤ nI i from Int32.le_refl _, l1]
            refine hk _ _ (fun o ho => f1 o (by omega) (by omega)) (fun R2 hr2 => ?_)
            have e84 : μ1 84 = μ 84 := f1 84 (by omega) (by omega)
            simp only [s168, u168_0, u168_1, u168_2, u168_3, u168_6, u168_9, u168_12, u168_13, u168_14, u168_17, u168_18, u168_19, u168_22, u168_23, u168_24, u168_25, u168_26, u168_28, u168_31, u168_32, u168_33, u168_36, u168_37, u168_38, u168_42, u168_43, u168_46, u168_47, u168_50, u168_53, u168_54, u168_57, u168_58, u168_59, u168_60, u168_61, u168_63, u168_65, u168_66, u168_67, u168_70, u168_71, u168_72, u168_73, u168_74, u168_77, u168_78, u168_79, u168_80, u168_81, u168_82, u168_83, u168_86, u168_89, u168_90, u168_93, u168_94, u168_95, ly_kd, ly_al, ly_fv0, ly_fv1, ly_fv2, ly_fv3, ly_fv4, ly_fk, ly_ra, Option.toList, List.cons_append, List.nil_append, q_ski, q_skr, q_sku, if_true, if_false, m_in, m_isCell, m_isMourner, m_isKm, m_isSheet, m_f1, m_f2, m_f3, m_f4, m_f5, q_b0, q_not, and_self, q_wl0, q_wl1, q_wl48, q_wu1, q_wu2, q_wu3, q_wu5, q_wu6, q_wu7, q_wu8, q_wu15, q_wu30, q_wu40, q_wu57, q_wu60, q_wu69, q_wu99, q_wu1584, fa_wide_le, q_up_o (show (84 : Nat) ≠ 79 by decide), hin, q_v247, q_tn, true_and, e84, t1, nI_add, g3]
            have inner : ∀ m j, j + m = i → ∀ μ2, (∀ o, o ≠ 84 → μ2 o = μ1 o) → (∀ c, c < 197 → c ≠ 3 → μ2 84 c = μ 84 c) → μ2 84 3 = nI (t + j) → (∀ c, c < t → μ2 84 (197 + c) = μ 84 (197 + c)) → (∀ c, c < j → μ2 84 (197 + (t + c)) = nI (q_by x c)) → gc_W (gc_S 99) cX12_feed 12 0 R2 40 [.ref 83, .long x, .retAddr 1, .int (nI i), .int (nI j)] [] μ2 := by
              intro m
              induction m with
              | zero =>
                intro j hj μ2 f2 o2 l2 a2 b2
                have hj : j = i := hj
                subst hj
                refine (u168_40).mpr ?_
                simp only [u168_0, u168_1, u168_2, u168_3, u168_6, u168_9, u168_12, u168_13, u168_14, u168_17, u168_18, u168_19, u168_22, u168_23, u168_24, u168_25, u168_26, u168_28, u168_31, u168_32, u168_33, u168_36, u168_37, u168_38, u168_42, u168_43, u168_46, u168_47, u168_50, u168_53, u168_54, u168_57, u168_58, u168_59, u168_60, u168_61, u168_63, u168_65, u168_66, u168_67, u168_70, u168_71, u168_72, u168_73, u168_74, u168_77, u168_78, u168_79, u168_80, u168_81, u168_82, u168_83, u168_86, u168_89, u168_90, u168_93, u168_94, u168_95, ly_kd, ly_al, ly_fv0, ly_fv1, ly_fv2, ly_fv3, ly_fv4, ly_fk, ly_ra, Option.toList, List.cons_append, List.nil_append, q_ski, q_skr, q_sku, if_true, if_false, show nI j ≤ nI j from Int32.le_refl _, q_v247, q_tn, true_and, l2]
                refine hr2 μ2 (q_I_tape I f1 (fun o _ b _ => f2 o b) (by rw [f2 83 (by omega), f1 83 (by omega) (by omega)]) (by rw [f2 83 (by omega), f1 83 (by omega) (by omega)]) o2 ⟨t + j, l2, h3, by rw [f2 39 (by omega)]; exact l1, fun c hc => ?_⟩) (fun o ho => f2 o (by omega))
                show μ2 40 c = _ ∧ _
                rw [f2 40 (by omega)]
                by_cases z : c < t
                · rw [a1 c z, a2 c z]
                  exact t4 c z
                · obtain ⟨e, rfl⟩ : ∃ e, c = t + e := ⟨c - t, by omega⟩
                  rw [b1 e (by omega), b2 e (by omega)]
                  exact ⟨rfl, _, q_by_lt, rfl⟩
              | succ m ih =>
                intro j hj μ2 f2 o2 l2 a2 b2
                refine (u168_40).mpr ?_
                simp only [u168_0, u168_1, u168_2, u168_3, u168_6, u168_9, u168_12, u168_13, u168_14, u168_17, u168_18, u168_19, u168_22, u168_23, u168_24, u168_25, u168_26, u168_28, u168_31, u168_32, u168_33, u168_36, u168_37, u168_38, u168_42, u168_43, u168_46, u168_47, u168_50, u168_53, u168_54, u168_57, u168_58, u168_59, u168_60, u168_61, u168_63, u168_65, u168_66, u168_67, u168_70, u168_71, u168_72, u168_73, u168_74, u168_77, u168_78, u168_79, u168_80, u168_81, u168_82, u168_83, u168_86, u168_89, u168_90, u168_93, u168_94, u168_95, ly_kd, ly_al, ly_fv0, ly_fv1, ly_fv2, ly_fv3, ly_fv4, ly_fk, ly_ra, Option.toList, List.cons_append, List.nil_append, q_ski, q_skr, q_sku, if_true, if_false, show ¬ nI i ≤ nI j from nI_ge (by omega) (by omega), q_v247, q_tn, true_and, l2, show (197 : Int32) + nI (t + j) = nI (197 + (t + j)) from nI_add 197 _, q_bs64 (x := x) (show j < 8 by omega), vp_in_nI (show 197 + (t + j) < 247 by omega) (by decide), nI_clamp (show 197 + (t + j) < 2 ^ 31 by omega), q_up_j (show 3 ≠ 197 + (t + j) by omega), nI_1]
                refine ih (j + 1) (by omega) _ (fun o ho => by rw [gc_up_ne ho, gc_up_ne ho]; exact f2 o ho) (fun c h1 h2 => by rw [q_up_j h2, q_up_j (by omega)]; exact o2 c h1 h2) q_up_same (fun c hc => by rw [q_up_j (by omega), q_up_j (by omega)]; exact a2 c hc) (fun c hc => ?_)
                rw [q_up_j (by omega)]
                by_cases z : c = j
                · subst z; exact q_up_same
                · rw [q_up_j (by omega)]; exact b2 c (by omega)
            exact inner i 0 (by omega) μ1 (fun _ _ => rfl) (fun c _ _ => by rw [e84]) (by rw [e84]; exact t1) (fun c _ => by rw [e84]) (fun c hc => absurd hc (by omega))
          | succ m ih =>
            intro i hi μ1 f1 l1 a1 b1
            refine (u88_43).mpr ?_
            simp only [u88_0, u88_1, u88_2, u88_5, u88_6, u88_8, u88_11, u88_12, u88_13, u88_16, u88_17, u88_18, u88_21, u88_24, u88_27, u88_28, u88_29, u88_31, u88_34, u88_35, u88_36, u88_39, u88_40, u88_41, u88_45, u88_46, u88_49, u88_50, u88_53, u88_56, u88_57, u88_59, u88_61, u88_62, u88_63, u88_64, u88_67, u88_68, u88_71, u88_74, u88_77, u88_78, u88_81, u88_84, u88_87, ly_kd, ly_al, ly_fv0, ly_fv1, ly_fv2, ly_fv3, ly_fv4, ly_fk, ly_ra, Option.toList, List.cons_append, List.nil_append, q_ski, q_skr, q_sku, if_true, if_false, show ¬ nI k ≤ nI i from nI_ge (by omega) (by omega), q_bu (x := x) (show i < 8 by omega), t_add q_rw12.2.2.2.2.2.1 (by decide) l1 (show t + i < 50 by omega), nI_1]
            refine ih (i + 1) (by omega) _ (fun o a b => by rw [gc_up_ne a, gc_up_ne b]; exact f1 o a b) q_up_same (fun j hj => by rw [q_up_o (by omega), q_up_j (by omega)]; exact a1 j hj) (fun j hj => ?_)
            rw [q_up_o (by omega)]
            by_cases z : j = i
            · subst z; exact q_up_same
            · rw [q_up_j (by omega)]; exact b1 j (by omega)
        exact main k 0 (by omega) μ (fun _ _ _ => rfl) t3 (fun _ _ => rfl) (fun j hj => absurd hj (by omega))
      · have g3 : ¬ nI (t + k) ≤ 50 := (show ¬ nI (t + k) ≤ nI 50 from nI_ge (by omega) (by omega))
        simp only [h1, h2, if_true, if_false, t3, nI_add, g3]
        refine hk _ _ (q_hi_up q_hi.rf (by omega)) (fun R2 hr2 => ?_)
        simp only [s168, u168_0, u168_1, u168_2, u168_3, u168_6, u168_9, u168_12, u168_13, u168_14, u168_17, u168_18, u168_19, u168_22, u168_23, u168_24, u168_25, u168_26, u168_28, u168_31, u168_32, u168_33, u168_36, u168_37, u168_38, u168_42, u168_43, u168_46, u168_47, u168_50, u168_53, u168_54, u168_57, u168_58, u168_59, u168_60, u168_61, u168_63, u168_65, u168_66, u168_67, u168_70, u168_71, u168_72, u168_73, u168_74, u168_77, u168_78, u168_79, u168_80, u168_81, u168_82, u168_83, u168_86, u168_89, u168_90, u168_93, u168_94, u168_95, ly_kd, ly_al, ly_fv0, ly_fv1, ly_fv2, ly_fv3, ly_fv4, ly_fk, ly_ra, Option.toList, List.cons_append, List.nil_append, q_ski, q_skr, q_sku, if_true, if_false, m_in, m_isCell, m_isMourner, m_isKm, m_isSheet, m_f1, m_f2, m_f3, m_f4, m_f5, q_b0, q_not, and_self, q_wl0, q_wl1, q_wl48, q_wu1, q_wu2, q_wu3, q_wu5, q_wu6, q_wu7, q_wu8, q_wu15, q_wu30, q_wu40, q_wu57, q_wu60, q_wu69, q_wu99, q_wu1584, fa_wide_le, q_up_o (show (84 : Nat) ≠ 79 by decide), hin, q_v247, q_tn, true_and, t1, nI_add, g3]
        exact q_P_ref I (by omega) q_fx.rf.fy q_fx.rf.fy hr2
    · simp only [h1, h2, if_false]
      exact ref (fun z => h2 z.2)
