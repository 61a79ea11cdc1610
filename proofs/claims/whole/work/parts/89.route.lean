def q_wh (D : Nat → Int32) (c : Nat) : Bool := !decide (D (21 + c) = 1)
theorem q_or_torn {D : Nat → Int32} : ∀ n, n ≤ 16 → (∀ c, c < n → D (21 + c) = 0 ∨ D (21 + c) = 1) → q_or (fun c => D (21 + c) <<< (nI c &&& 31)) n = q_set (fun c => decide (D (21 + c) = 1)) n
  | 0, _, _ => rfl
  | n + 1, hn, h => by
    show q_or (fun c => D (21 + c) <<< (nI c &&& 31)) n ||| D (21 + n) <<< (nI n &&& 31) = q_set (fun c => decide (D (21 + c) = 1)) n ||| (if decide (D (21 + n) = 1) = true then (1 : Int32) <<< (nI n &&& 31) else 0)
    rw [q_or_torn n (by omega) (fun c hc => h c (by omega))]
    rcases h n (by omega) with e | e
    · rw [e]
      have z : (0 : Int32) <<< (nI n &&& 31) = 0 := b_ext (fun i hi => by rw [b_shl n (by omega) _ hi, b_0, b_0]; simp)
      rw [z, if_neg (by decide)]
    · rw [e, if_pos (by decide)]
theorem m_torn {d : Nat} {R : gR} {μ : gM} (hok : q_ok (μ 84)) : gc_S (d + 1) 186 [.ref 83] μ R ↔ R (some (.int (q_set (fun c => decide (μ 84 (21 + c) = 1)) 16))) μ := by
  rw [m_tornCells, q_or_torn 16 (by omega) hok.2.2.2.1]
theorem m_wholeR {d : Nat} {R : gR} {μ : gM} (hok : q_ok (μ 84)) : gc_S (d + 2) 221 [.ref 83] μ R ↔ R (some (.int (q_set (q_wh (μ 84)) 16))) μ := by
  simp only [s221, u221_0, u221_3, u221_4, u221_7, u221_8, u221_9, u221_10, ly_kd, ly_al, ly_fv0, ly_fv1, ly_fv2, ly_fv3, ly_fv4, ly_fk, ly_ra, Option.toList, List.cons_append, List.nil_append, q_ski, q_skr, q_sku, if_true, if_false, m_torn hok, q_set_not]
  exact Iff.rfl
theorem t_wholeR {d : Nat} {R : gR} {μ : gM} {k l : Nat} {D : Nat → Int32} (K : q_K k l) (hR : q_R k D μ) : gc_S (d + 1) 4 [.ref k] μ R ↔ R (some (.int (q_set (q_wh D) 16))) μ := by
  rw [t_whole K, hR.2.2.2.2.2.2.1, q_set_not]
  exact Iff.rfl
theorem p_parts : q_P 112 223 [.ref 0] [.ref 83] := by
  intro μ R I hk
  obtain ⟨ok, ⟨y, hy, hy2⟩, hR, hL⟩ := q_c31 I
  simp only [s112, u112_0, u112_1, u112_4, u112_7, u112_10, ly_kd, ly_al, ly_fv0, ly_fv1, ly_fv2, ly_fv3, ly_fv4, ly_fk, ly_ra, Option.toList, List.cons_append, List.nil_append, q_ski, q_skr, q_sku, if_true, if_false, t_wholeR q_K31 hR]
  refine t_partsOf ?_
  simp only [u112_0, u112_1, u112_4, u112_7, u112_10, ly_kd, ly_al, ly_fv0, ly_fv1, ly_fv2, ly_fv3, ly_fv4, ly_fk, ly_ra, Option.toList, List.cons_append, List.nil_append, q_ski, q_skr, q_sku, if_true, if_false]
  refine hk _ _ q_hi.rf (fun R2 hr2 => ?_)
  simp only [s223, u223_0, u223_1, u223_2, u223_5, u223_8, ly_kd, ly_al, ly_fv0, ly_fv1, ly_fv2, ly_fv3, ly_fv4, ly_fk, ly_ra, Option.toList, List.cons_append, List.nil_append, q_ski, q_skr, q_sku, if_true, if_false, m_wholeR ok]
  refine m_partsOf (fun μ1 f1 => ?_)
  simp only [u223_0, u223_1, u223_2, u223_5, u223_8, ly_kd, ly_al, ly_fv0, ly_fv1, ly_fv2, ly_fv3, ly_fv4, ly_fk, ly_ra, Option.toList, List.cons_append, List.nil_append, q_ski, q_skr, q_sku, if_true, if_false]
  have f : q_fx μ μ1 := fun o ho => f1 o (by unfold q_scr at ho; omega)
  exact hr2 _ (q_I_fy I f.fy) f.fy.hi
set_option maxHeartbeats 1000000 in
theorem p_route {a b : Int32} : q_P 109 222 [.ref 0, .int a, .int b] [.ref 83, .int a, .int b] := by
  intro μ R I hk
  obtain ⟨ok, ⟨y, hy, hy2⟩, hR, hL⟩ := q_c31 I
  by_cases h1 : 0 ≤ a ∧ a ≤ 15
  · by_cases h2 : 0 ≤ b ∧ b ≤ 15
    · obtain ⟨i, hi, rfl⟩ := q_rng (n := 15) rfl h1
      obtain ⟨j, hj, rfl⟩ := q_rng (n := 15) rfl h2
      have i16 : i < 16 := by omega
      have j16 : j < 16 := by omega
      have e11 : μ 31 11 = q_set (fun c => decide (μ 84 (21 + c) = 1)) 16 := hR.2.2.2.2.2.2.1
      have ti := q_tb ok i16
      have tj := q_tb ok j16
      have v1 : ∀ x y : Int32, gc_up μ 79 x.toNatClampNeg y 84 = μ 84 := fun x y => gc_up_ne (by omega)
      simp only [s109, u109_0, u109_1, u109_4, u109_7, u109_8, u109_11, u109_14, u109_15, u109_16, u109_19, u109_20, u109_21, u109_24, u109_27, u109_28, u109_29, u109_30, u109_31, u109_32, u109_35, u109_36, u109_39, u109_42, u109_43, u109_44, u109_45, u109_46, u109_47, u109_50, u109_51, u109_52, u109_55, u109_56, u109_57, u109_58, u109_59, u109_60, u109_61, u109_65, u109_67, u109_70, u109_71, u109_72, u109_73, u109_74, u109_75, u109_76, u109_79, u109_81, u109_82, u109_83, u109_86, u109_87, u109_90, u109_93, u109_94, u109_95, u109_98, u109_101, u109_102, u109_103, u109_106, ly_kd, ly_al, ly_fv0, ly_fv1, ly_fv2, ly_fv3, ly_fv4, ly_fk, ly_ra, Option.toList, List.cons_append, List.nil_append, q_ski, q_skr, q_sku, if_true, if_false, t_upTo, t_isCell, t_isMourner, t_isKM, t_isUse, t_isSheet, t_ref1, t_ref2, t_ref3, t_ref4, t_ref5, q_b0, q_not, and_self, h1, h2, e11, ti, tj]
      have go3 : (μ 84 (21 + i) = 1 ∨ μ 84 (21 + j) = 1) → R (some (.int (-1000000003))) (gc_up μ 79 3 (μ 79 3 + 1)) := fun hg => by
        refine hk _ _ (q_hi_up q_hi.rf (by omega)) (fun R2 hr2 => ?_)
        have e84 : gc_up μ 79 3 (μ 79 3 + 1) 84 = μ 84 := gc_up_ne (by omega)
        have pos : ¬ μ 84 (21 + i) + μ 84 (21 + j) ≤ 0 := by
          rcases ok.2.2.2.1 i i16 with z1 | z1 <;> rcases ok.2.2.2.1 j j16 with z2 | z2 <;> rw [z1, z2] at hg ⊢ <;> first | decide | (exact absurd hg (by decide))
        simp only [s222, u222_0, u222_1, u222_4, u222_7, u222_8, u222_11, u222_14, u222_15, u222_16, u222_19, u222_20, u222_21, u222_24, u222_26, u222_27, u222_28, u222_29, u222_30, u222_33, u222_35, u222_36, u222_37, u222_38, u222_39, u222_42, u222_43, u222_44, u222_47, u222_48, u222_49, u222_50, u222_51, u222_54, u222_57, u222_58, u222_61, u222_62, u222_63, u222_66, u222_69, u222_70, u222_73, u222_74, u222_75, u222_78, u222_79, u222_80, u222_83, ly_kd, ly_al, ly_fv0, ly_fv1, ly_fv2, ly_fv3, ly_fv4, ly_fk, ly_ra, Option.toList, List.cons_append, List.nil_append, q_ski, q_skr, q_sku, if_true, if_false, m_in, m_isCell, m_isMourner, m_isKm, m_isSheet, m_f1, m_f2, m_f3, m_f4, m_f5, q_b0, q_not, and_self, q_wl0, q_wl1, q_wl48, q_wu1, q_wu2, q_wu3, q_wu5, q_wu6, q_wu7, q_wu8, q_wu15, q_wu30, q_wu40, q_wu57, q_wu60, q_wu69, q_wu99, q_wu1584, fa_wide_le, q_up_o (show (84 : Nat) ≠ 79 by decide), h1, h2, e84, show (21 : Int32) + nI i = nI (21 + i) from nI_add 21 i, show (21 : Int32) + nI j = nI (21 + j) from nI_add 21 j, vp_in_nI (show 21 + i < 247 by omega) (by decide), nI_clamp (show 21 + i < 2 ^ 31 by omega), vp_in_nI (show 21 + j < 247 by omega) (by decide), nI_clamp (show 21 + j < 2 ^ 31 by omega), true_and, pos]
        exact q_P_ref I (by omega) q_fx.rf.fy q_fx.rf.fy hr2
      by_cases g1 : μ 84 (21 + i) = 1
      · simp only [g1, if_true]
        exact go3 (Or.inl g1)
      · by_cases g2 : μ 84 (21 + j) = 1
        · simp only [g1, g2, if_true, if_false]
          exact go3 (Or.inr g2)
        · have z1 : μ 84 (21 + i) = 0 := (ok.2.2.2.1 i i16).resolve_right g1
          have z2 : μ 84 (21 + j) = 0 := (ok.2.2.2.1 j j16).resolve_right g2
          have Pi : q_wh (μ 84) i = true := by unfold q_wh; rw [decide_eq_false g1]; rfl
          have ref : ∀ (μc : gM) (R2 : gR), μc 84 = μ 84 → ((∀ k, q_wy (q_wh (μ 84)) i 16 j = nI k → k ≤ 16 → ∀ μ', (∀ o, o ≠ 94 → μ' o = μc o) → R2 (some (.int (nI k))) μ')) → (q_wy (q_wh (μ 84)) i 16 j = 100000 → ∀ μ', (∀ o, o ≠ 94 → μ' o = μc o) → R2 (some (.int (-1000000002))) (gc_up μ' 87 2 (μ' 87 2 + 1))) → gc_S 100 222 [.ref 83, .int (nI i), .int (nI j)] μc R2 := by
            intro μc R2 e84 H1 H2
            simp only [s222, u222_0, u222_1, u222_4, u222_7, u222_8, u222_11, u222_14, u222_15, u222_16, u222_19, u222_20, u222_21, u222_24, u222_26, u222_27, u222_28, u222_29, u222_30, u222_33, u222_35, u222_36, u222_37, u222_38, u222_39, u222_42, u222_43, u222_44, u222_47, u222_48, u222_49, u222_50, u222_51, u222_54, u222_57, u222_58, u222_61, u222_62, u222_63, u222_66, u222_69, u222_70, u222_73, u222_74, u222_75, u222_78, u222_79, u222_80, u222_83, ly_kd, ly_al, ly_fv0, ly_fv1, ly_fv2, ly_fv3, ly_fv4, ly_fk, ly_ra, Option.toList, List.cons_append, List.nil_append, q_ski, q_skr, q_sku, if_true, if_false, m_isCell, m_f1, m_f2, m_f3, q_b0, q_not, and_self, h1, h2, e84, show (21 : Int32) + nI i = nI (21 + i) from nI_add 21 i, show (21 : Int32) + nI j = nI (21 + j) from nI_add 21 j, vp_in_nI (show 21 + i < 247 by omega) (by decide), nI_clamp (show 21 + i < 2 ^ 31 by omega), vp_in_nI (show 21 + j < 247 by omega) (by decide), nI_clamp (show 21 + j < 2 ^ 31 by omega), true_and, z1, z2, show (0 : Int32) + 0 ≤ 0 by decide, m_wholeR (show q_ok (μc 84) by rw [e84]; exact ok)]
            refine m_measures i16 (fun μ1 f1 w1 => ?_)
            have ew := w1 j j16
            obtain ⟨y1, y2⟩ := q_wy_rc i16 Pi 16 (by omega) j j16
            cases er : q_rc (q_wh (μ 84)) i 16 j with
            | true =>
              obtain ⟨k, hk16, e1, -⟩ := y1 er
              have lt : ¬ (100000 : Int32) ≤ nI k := (show ¬ nI 100000 ≤ nI k from nI_ge (by omega) (by omega))
              simp only [u222_0, u222_1, u222_4, u222_7, u222_8, u222_11, u222_14, u222_15, u222_16, u222_19, u222_20, u222_21, u222_24, u222_26, u222_27, u222_28, u222_29, u222_30, u222_33, u222_35, u222_36, u222_37, u222_38, u222_39, u222_42, u222_43, u222_44, u222_47, u222_48, u222_49, u222_50, u222_51, u222_54, u222_57, u222_58, u222_61, u222_62, u222_63, u222_66, u222_69, u222_70, u222_73, u222_74, u222_75, u222_78, u222_79, u222_80, u222_83, ly_kd, ly_al, ly_fv0, ly_fv1, ly_fv2, ly_fv3, ly_fv4, ly_fk, ly_ra, Option.toList, List.cons_append, List.nil_append, q_ski, q_skr, q_sku, if_true, if_false, vp_in_nI j16 (by decide), nI_clamp (show j < 2 ^ 31 by omega), true_and, ew, e1, lt]
              exact H1 k e1 hk16 μ1 f1
            | false =>
              have e1 := y2 er
              simp only [u222_0, u222_1, u222_4, u222_7, u222_8, u222_11, u222_14, u222_15, u222_16, u222_19, u222_20, u222_21, u222_24, u222_26, u222_27, u222_28, u222_29, u222_30, u222_33, u222_35, u222_36, u222_37, u222_38, u222_39, u222_42, u222_43, u222_44, u222_47, u222_48, u222_49, u222_50, u222_51, u222_54, u222_57, u222_58, u222_61, u222_62, u222_63, u222_66, u222_69, u222_70, u222_73, u222_74, u222_75, u222_78, u222_79, u222_80, u222_83, ly_kd, ly_al, ly_fv0, ly_fv1, ly_fv2, ly_fv3, ly_fv4, ly_fk, ly_ra, Option.toList, List.cons_append, List.nil_append, q_ski, q_skr, q_sku, if_true, if_false, vp_in_nI j16 (by decide), nI_clamp (show j < 2 ^ 31 by omega), true_and, ew, e1, show (100000 : Int32) ≤ 100000 by decide, m_f2]
              exact H2 e1 μ1 f1
          have main : ∀ m c, c + m = 16 → (∀ q, q < c → q_rc (q_wh (μ 84)) i q j = false) → gc_W (gc_S (99)) cX11_route 11 0 R 63 [.ref 0, .int (nI i), .int (nI j), .int (q_set (q_rc (q_wh (μ 84)) i c) 16), .int (nI c)] [] μ := by
            intro m
            induction m with
            | zero =>
              intro c hc hno
              obtain rfl : c = 16 := hc
              have er : q_rc (q_wh (μ 84)) i 16 j = false := by
                rw [← q_rc_fix i16 Pi (n := 15) (by omega) j16]; exact hno 15 (by omega)
              refine (u109_63).mpr ?_
              simp only [u109_0, u109_1, u109_4, u109_7, u109_8, u109_11, u109_14, u109_15, u109_16, u109_19, u109_20, u109_21, u109_24, u109_27, u109_28, u109_29, u109_30, u109_31, u109_32, u109_35, u109_36, u109_39, u109_42, u109_43, u109_44, u109_45, u109_46, u109_47, u109_50, u109_51, u109_52, u109_55, u109_56, u109_57, u109_58, u109_59, u109_60, u109_61, u109_65, u109_67, u109_70, u109_71, u109_72, u109_73, u109_74, u109_75, u109_76, u109_79, u109_81, u109_82, u109_83, u109_86, u109_87, u109_90, u109_93, u109_94, u109_95, u109_98, u109_101, u109_102, u109_103, u109_106, show (16 : Int32) ≤ nI 16 by decide, if_true, ly_kd, ly_al, ly_fv0, ly_fv1, ly_fv2, ly_fv3, ly_fv4, ly_fk, ly_ra, Option.toList, List.cons_append, List.nil_append, q_ski, q_skr, q_sku, if_true, if_false, t_ref2]
              refine hk _ _ (q_hi_up q_hi.rf (by omega)) (fun R2 hr2 => ?_)
              refine ref _ R2 (gc_up_ne (by omega)) (fun k e _ => ?_) (fun _ μ' f' => ?_)
              · exact absurd (e.symm.trans ((q_wy_rc i16 Pi 16 (by omega) j j16).2 er)) (q_far (by omega))
              · have f : q_fx (gc_up μ 79 2 (μ 79 2 + 1)) μ' := fun o ho => f' o (by unfold q_scr at ho; omega)
                exact q_P_ref I (by omega) q_fx.rf.fy f.fy hr2
            | succ m ih =>
              intro c hc hno
              have bit : (q_set (q_rc (q_wh (μ 84)) i c) 16 >>> (nI j &&& 31)) &&& 1 = 1 ↔ q_rc (q_wh (μ 84)) i c j = true := by
                rw [q_bit1o (by omega), q_set_bt 16 (by omega) j (by omega)]; simp [j16]
              refine (u109_63).mpr ?_
              cases er : q_rc (q_wh (μ 84)) i c j with
              | true =>
                simp only [u109_0, u109_1, u109_4, u109_7, u109_8, u109_11, u109_14, u109_15, u109_16, u109_19, u109_20, u109_21, u109_24, u109_27, u109_28, u109_29, u109_30, u109_31, u109_32, u109_35, u109_36, u109_39, u109_42, u109_43, u109_44, u109_45, u109_46, u109_47, u109_50, u109_51, u109_52, u109_55, u109_56, u109_57, u109_58, u109_59, u109_60, u109_61, u109_65, u109_67, u109_70, u109_71, u109_72, u109_73, u109_74, u109_75, u109_76, u109_79, u109_81, u109_82, u109_83, u109_86, u109_87, u109_90, u109_93, u109_94, u109_95, u109_98, u109_101, u109_102, u109_103, u109_106, q_nle (show c < 16 by omega) (by decide) (show (16 : Int32) = nI 16 from rfl), if_false, bit, er, if_true]
                refine hk _ _ q_hi.rf (fun R2 hr2 => ?_)
                have r16 := q_rc_mk Pi er (16 - c)
                rw [show c + (16 - c) = 16 by omega] at r16
                obtain ⟨k, hk16, e1, e2, e3⟩ := (q_wy_rc i16 Pi 16 (by omega) j j16).1 r16
                have kc : k = c := by
                  rcases Nat.lt_trichotomy k c with z | z | z
                  · rw [hno k z] at e2; cases e2
                  · exact z
                  · rw [e3 c z] at er; cases er
                subst kc
                refine ref μ R2 rfl (fun q e _ μ' f' => ?_) (fun e => ?_)
                · have : q = k := (nI_eq (by omega) (by omega)).mp (e.symm.trans e1)
                  rw [this]
                  have f : q_fx μ μ' := fun o ho => f' o (by unfold q_scr at ho; omega)
                  exact hr2 _ (q_I_fy I f.fy) f.fy.hi
                · exact absurd (e1.symm.trans e) (q_far (by omega))
              | false =>
                have es : q_spr (q_set (q_rc (q_wh (μ 84)) i c) 16) &&& q_set (q_wh (μ 84)) 16 = q_set (q_rc (q_wh (μ 84)) i (c + 1)) 16 := by
                  rw [q_spr_set, q_set_and]; rfl
                simp only [u109_0, u109_1, u109_4, u109_7, u109_8, u109_11, u109_14, u109_15, u109_16, u109_19, u109_20, u109_21, u109_24, u109_27, u109_28, u109_29, u109_30, u109_31, u109_32, u109_35, u109_36, u109_39, u109_42, u109_43, u109_44, u109_45, u109_46, u109_47, u109_50, u109_51, u109_52, u109_55, u109_56, u109_57, u109_58, u109_59, u109_60, u109_61, u109_65, u109_67, u109_70, u109_71, u109_72, u109_73, u109_74, u109_75, u109_76, u109_79, u109_81, u109_82, u109_83, u109_86, u109_87, u109_90, u109_93, u109_94, u109_95, u109_98, u109_101, u109_102, u109_103, u109_106, q_nle (show c < 16 by omega) (by decide) (show (16 : Int32) = nI 16 from rfl), if_false, bit, er, Bool.false_eq_true, t_spread, t_wholeR q_K31 hR, ly_kd, ly_al, ly_fv0, ly_fv1, ly_fv2, ly_fv3, ly_fv4, ly_fk, ly_ra, Option.toList, List.cons_append, List.nil_append, q_ski, q_skr, q_sku, if_true, if_false, es, nI_1]
                refine ih (c + 1) (by omega) (fun q hq => ?_)
                by_cases e : q = c
                · subst e; exact er
                · exact hno q (by omega)
          have s0 : (1 : Int32) <<< (nI i &&& 31) = q_set (q_rc (q_wh (μ 84)) i 0) 16 := by
            refine q_set_eq (by omega) (fun q hq => ?_)
            rw [b_sh1 (by omega) hq]
            show _ = (decide (q < 16) && decide (q = i))
            by_cases e : q = i
            · subst e; simp [i16]
            · simp [e]
          have st := main 16 0 rfl (fun q hq => absurd hq (by omega))
          rw [← s0] at st
          simp only [g1, g2, if_false]
          exact st
    · exact (by
      simp only [s109, u109_0, u109_1, u109_4, u109_7, u109_8, u109_11, u109_14, u109_15, u109_16, u109_19, u109_20, u109_21, u109_24, u109_27, u109_28, u109_29, u109_30, u109_31, u109_32, u109_35, u109_36, u109_39, u109_42, u109_43, u109_44, u109_45, u109_46, u109_47, u109_50, u109_51, u109_52, u109_55, u109_56, u109_57, u109_58, u109_59, u109_60, u109_61, u109_65, u109_67, u109_70, u109_71, u109_72, u109_73, u109_74, u109_75, u109_76, u109_79, u109_81, u109_82, u109_83, u109_86, u109_87, u109_90, u109_93, u109_94, u109_95, u109_98, u109_101, u109_102, u109_103, u109_106, ly_kd, ly_al, ly_fv0, ly_fv1, ly_fv2, ly_fv3, ly_fv4, ly_fk, ly_ra, Option.toList, List.cons_append, List.nil_append, q_ski, q_skr, q_sku, if_true, if_false, t_upTo, t_isCell, t_isMourner, t_isKM, t_isUse, t_isSheet, t_ref1, t_ref2, t_ref3, t_ref4, t_ref5, q_b0, q_not, and_self, h1, h2]
      refine hk _ _ (q_hi_up q_hi.rf (by omega)) (fun R2 hr2 => ?_)
      simp only [s222, u222_0, u222_1, u222_4, u222_7, u222_8, u222_11, u222_14, u222_15, u222_16, u222_19, u222_20, u222_21, u222_24, u222_26, u222_27, u222_28, u222_29, u222_30, u222_33, u222_35, u222_36, u222_37, u222_38, u222_39, u222_42, u222_43, u222_44, u222_47, u222_48, u222_49, u222_50, u222_51, u222_54, u222_57, u222_58, u222_61, u222_62, u222_63, u222_66, u222_69, u222_70, u222_73, u222_74, u222_75, u222_78, u222_79, u222_80, u222_83, ly_kd, ly_al, ly_fv0, ly_fv1, ly_fv2, ly_fv3, ly_fv4, ly_fk, ly_ra, Option.toList, List.cons_append, List.nil_append, q_ski, q_skr, q_sku, if_true, if_false, m_in, m_isCell, m_isMourner, m_isKm, m_isSheet, m_f1, m_f2, m_f3, m_f4, m_f5, q_b0, q_not, and_self, q_wl0, q_wl1, q_wl48, q_wu1, q_wu2, q_wu3, q_wu5, q_wu6, q_wu7, q_wu8, q_wu15, q_wu30, q_wu40, q_wu57, q_wu60, q_wu69, q_wu99, q_wu1584, fa_wide_le, q_up_o (show (84 : Nat) ≠ 79 by decide), h1, h2]
      exact q_P_ref I (by omega) q_fx.rf.fy q_fx.rf.fy hr2)
  · exact (by
      simp only [s109, u109_0, u109_1, u109_4, u109_7, u109_8, u109_11, u109_14, u109_15, u109_16, u109_19, u109_20, u109_21, u109_24, u109_27, u109_28, u109_29, u109_30, u109_31, u109_32, u109_35, u109_36, u109_39, u109_42, u109_43, u109_44, u109_45, u109_46, u109_47, u109_50, u109_51, u109_52, u109_55, u109_56, u109_57, u109_58, u109_59, u109_60, u109_61, u109_65, u109_67, u109_70, u109_71, u109_72, u109_73, u109_74, u109_75, u109_76, u109_79, u109_81, u109_82, u109_83, u109_86, u109_87, u109_90, u109_93, u109_94, u109_95, u109_98, u109_101, u109_102, u109_103, u109_106, ly_kd, ly_al, ly_fv0, ly_fv1, ly_fv2, ly_fv3, ly_fv4, ly_fk, ly_ra, Option.toList, List.cons_append, List.nil_append, q_ski, q_skr, q_sku, if_true, if_false, t_upTo, t_isCell, t_isMourner, t_isKM, t_isUse, t_isSheet, t_ref1, t_ref2, t_ref3, t_ref4, t_ref5, q_b0, q_not, and_self, h1]
      refine hk _ _ (q_hi_up q_hi.rf (by omega)) (fun R2 hr2 => ?_)
      simp only [s222, u222_0, u222_1, u222_4, u222_7, u222_8, u222_11, u222_14, u222_15, u222_16, u222_19, u222_20, u222_21, u222_24, u222_26, u222_27, u222_28, u222_29, u222_30, u222_33, u222_35, u222_36, u222_37, u222_38, u222_39, u222_42, u222_43, u222_44, u222_47, u222_48, u222_49, u222_50, u222_51, u222_54, u222_57, u222_58, u222_61, u222_62, u222_63, u222_66, u222_69, u222_70, u222_73, u222_74, u222_75, u222_78, u222_79, u222_80, u222_83, ly_kd, ly_al, ly_fv0, ly_fv1, ly_fv2, ly_fv3, ly_fv4, ly_fk, ly_ra, Option.toList, List.cons_append, List.nil_append, q_ski, q_skr, q_sku, if_true, if_false, m_in, m_isCell, m_isMourner, m_isKm, m_isSheet, m_f1, m_f2, m_f3, m_f4, m_f5, q_b0, q_not, and_self, q_wl0, q_wl1, q_wl48, q_wu1, q_wu2, q_wu3, q_wu5, q_wu6, q_wu7, q_wu8, q_wu15, q_wu30, q_wu40, q_wu57, q_wu60, q_wu69, q_wu99, q_wu1584, fa_wide_le, q_up_o (show (84 : Nat) ≠ 79 by decide), h1]
      exact q_P_ref I (by omega) q_fx.rf.fy q_fx.rf.fy hr2)
