/-! texts: the pair -/
theorem q_ok_text {D D' C : Nat → Int32} {u n : Nat} (hok : q_ok D) (hD : ∀ j, j < 97 → j ≠ 3 → j ≠ 75 + u → D' j = D j) (hO : ∀ j, 97 ≤ j → j < 197 → ¬ (97 + 50 * u ≤ j ∧ j < 147 + 50 * u) → D' j = D j) (hu : u < 2) (h75 : D' (75 + u) = nI n) (hw : q_wf C n) (hc : ∀ j, j < n → D' (97 + 50 * u + j) = C j) : q_ok D' := by
  obtain ⟨⟨m, hm, hm8⟩, ⟨y, hy, hy2⟩, hwet, htorn, hlist, hmm, hwf⟩ := hok
  refine ⟨⟨m, by rw [hD _ (by omega) (by omega) (by omega)]; exact hm, hm8⟩, ⟨y, by rw [hD _ (by omega) (by omega) (by omega)]; exact hy, hy2⟩, fun c hc => by rw [hD _ (by omega) (by omega) (by omega)]; exact hwet c hc, fun c hc => by rw [hD _ (by omega) (by omega) (by omega)]; exact htorn c hc, fun p hp => by rw [hD _ (by omega) (by omega) (by omega)]; exact hlist p hp, fun i hi => ?_, fun v hv => ?_⟩
  · rw [hD _ (by omega) (by omega) (by omega), hD _ (by omega) (by omega) (by omega), hD _ (by omega) (by omega) (by omega), hD _ (by omega) (by omega) (by omega)]; exact hmm i hi
  · by_cases e : v = u
    · subst e
      obtain ⟨h50, h2, h3⟩ := hw
      have dp : ∀ k, k ≤ n → q_dp (q_code D' v) k = q_dp C k := fun k hk => q_dp_ag k (fun j hj => hc j (by omega))
      refine ⟨n, h75, h50, fun k hk => ?_, fun hp => ?_⟩
      · rw [dp k (by omega), show q_code D' v k = C k from hc k hk]; exact h2 k hk
      · rw [dp n (Nat.le_refl _)]; exact h3 hp
    · obtain ⟨k, hk, h50, h2, h3⟩ := hwf v hv
      have ec : ∀ i, i < 50 → q_code D' v i = q_code D v i := fun i hi => hO _ (by omega) (by omega) (by omega)
      have dp : ∀ j, j ≤ k → q_dp (q_code D' v) j = q_dp (q_code D v) j := fun j hj => q_dp_ag j (fun i hi => ec i (by omega))
      refine ⟨k, by rw [hD _ (by omega) (by omega) (by omega)]; exact hk, h50, fun j hj => ?_, fun hp => ?_⟩
      · rw [ec j (by omega), dp j (by omega)]; exact h2 j hj
      · rw [dp k (Nat.le_refl _)]; exact h3 hp
theorem q_I_text {μ μ2 : gM} (I : q_I μ) (f : ∀ o, ¬ q_scr o → o ≠ 84 → o ≠ 83 → o ≠ 39 → o ≠ 12 → o ≠ 13 → o ≠ 16 → o ≠ 17 → μ2 o = μ o) (e3 : μ2 83 3 = μ 83 3) (e22 : μ2 83 22 = μ 83 22) (hD : ∀ j, j < 97 → j ≠ 3 → j ≠ 75 → j ≠ 76 → μ2 84 j = μ 84 j) (h3 : μ2 84 3 = 0) (h39 : μ2 39 1 = 0) (ok : q_ok (μ2 84)) (hL : q_Ll 11 (μ2 84) μ2) : q_I μ2 := by
  refine q_I_now I (fun o a b c d g h i j => f o a c d (by omega) g h i j) e3 e22 ?_
  obtain ⟨-, ⟨y, hy, hy2⟩, hR, hz, -, -, ⟨ww, w1, w2, w3, w4⟩⟩ := I.1
  have fn : ∀ o, ¬ (o = 14 ∨ o = 18 ∨ o = 22 ∨ (26 ≤ o ∧ o ≤ 30) ∨ o = 33 ∨ (43 ≤ o ∧ o ≤ 54) ∨ o = 57 ∨ o = 76 ∨ (80 ≤ o ∧ o ≤ 82) ∨ o = 86 ∨ (88 ≤ o ∧ o ≤ 96) ∨ o = 101 ∨ o = 84 ∨ o = 83 ∨ o = 39 ∨ o = 12 ∨ o = 13 ∨ o = 16 ∨ o = 17) → μ2 o = μ o := fun o ho => f o (by unfold q_scr; omega) (by omega) (by omega) (by omega) (by omega) (by omega) (by omega) (by omega)
  refine ⟨ok, ⟨y, by rw [hD _ (by omega) (by omega) (by omega) (by omega)]; exact hy, hy2⟩, q_R_mem (q_R_D hR (fun j a b c e => hD j (by omega) (by omega) (by omega) (by omega))) (fun o a b c => fn o (by omega)), ?_, hL, ⟨0, h3, by omega, h39, fun j hj => absurd hj (by omega)⟩, ⟨ww, by rw [hD _ (by omega) (by omega) (by omega) (by omega)]; exact w1, w2, ?_, fun j hj => ?_⟩⟩
  · rw [fn 31 (by omega), hD 2 (by omega) (by omega) (by omega) (by omega)]; exact hz
  · rw [fn _ (by omega)]; exact w3
  · rw [fn _ (by omega), hD _ (by omega) (by omega) (by omega) (by omega)]; exact w4 j hj
theorem q_wf_whl {A : Nat → Int32} {t u : Nat} (hA : q_by8s A t) (h50 : t ≤ 50) (h : (q_whl A t u).1 = true) : q_wf (q_whl A t u).2.2.2 (q_whl A t u).2.2.1 := by
  have gg : q_g1 t 0 0 (fun _ => 0) (q_whl A t u) := q_G_txt hA (q_G_lst (u := u) hA h50 5) 0 0 (fun _ => 0) (by omega) (by omega)
  obtain ⟨-, g2, g3⟩ := gg
  obtain ⟨-, -, g5, -, g6, g7⟩ := g3 h
  exact ⟨by omega, fun j hj => g7 j (by omega) hj, fun _ => g6⟩
set_option maxHeartbeats 1000000 in
theorem p_text {k : Int32} : q_P 90 169 [.ref 0, .int k] [.ref 83, .int k] := by
  intro μ R I hk
  obtain ⟨ok, ⟨y, hy, hy2⟩, hR, hz, hL, ⟨t, t1, t2, t3, t4⟩, -⟩ := id I.1
  have t3 : μ 39 1 = nI t := t3
  by_cases hg : 0 ≤ k ∧ k ≤ 1
  · obtain ⟨u, hu1, rfl⟩ := q_rng (n := 1) (K := 1) rfl hg
    have hu : u = 0 ∨ u = 1 := by omega
    obtain ⟨A, hA0, hA1⟩ : ∃ A : Nat → Int32, (∀ j, j < t → A j = μ 84 (197 + j)) ∧ ∀ j, t ≤ j → A j = -1 := ⟨fun j => if j < t then μ 84 (197 + j) else -1, fun j h => if_pos h, fun j h => if_neg (by omega)⟩
    have hA : q_by8s A t := ⟨fun i hi => by
      obtain ⟨-, b, b1, b2⟩ := t4 i hi
      exact ⟨b, b1, by rw [hA0 i hi]; exact b2⟩, hA1⟩
    have gg : q_g1 t 0 0 (fun _ => 0) (q_whl A t u) := q_G_txt hA (q_G_lst (u := u) hA t2 5) 0 0 (fun _ => 0) (by omega) (by omega)
    have gt := gg.2.1
    have e75 : (75 : Int32) + nI u = nI (75 + u) := nI_add 75 _
    have rdm : ∀ (μ4 : gM) (R2 : gR), μ4 84 = μ 84 → (∀ μ5 : gM, (∀ o, o ≠ 83 → o ≠ 89 → μ5 o = gc_up μ4 84 3 0 o) → (∀ j, j < 5 ∨ 13 < j → μ5 83 j = μ4 83 j) → μ5 83 8 = q_flt t (q_whl A t u) → ((q_whl A t u).1 = true → μ5 83 13 = nI (q_whl A t u).2.2.1 ∧ ∀ j, j < (q_whl A t u).2.2.1 → μ5 89 j = (q_whl A t u).2.2.2 j) → gc_W (gc_S 99) cX12_text 12 0 R2 39 [.ref 83, .int (nI u), .int (nI t), .retAddr 0] [] μ5) → gc_S 100 169 [.ref 83, .int (nI u)] μ4 R2 := fun μ4 R2 e84 h5 => by
      simp only [s169, u169_0, u169_1, u169_2, u169_3, u169_4, u169_7, u169_10, u169_11, u169_12, u169_15, u169_16, u169_17, u169_20, u169_21, u169_22, u169_23, u169_24, u169_27, u169_28, u169_29, u169_30, u169_31, u169_34, u169_35, u169_36, u169_40, u169_43, u169_46, u169_48, u169_49, u169_52, u169_53, u169_54, u169_55, u169_58, u169_60, u169_61, u169_62, u169_63, u169_66, u169_67, u169_68, u169_70, u169_71, u169_74, u169_77, u169_78, u169_81, u169_83, u169_85, u169_86, u169_87, u169_88, u169_89, u169_90, u169_91, u169_94, u169_95, u169_96, u169_97, u169_100, u169_103, u169_104, ly_kd, ly_al, ly_fv0, ly_fv1, ly_fv2, ly_fv3, ly_fv4, ly_fk, ly_ra, Option.toList, List.cons_append, List.nil_append, q_ski, q_skr, q_sku, if_true, if_false, m_in, m_isCell, m_isMourner, m_isKm, m_isSheet, m_f1, m_f2, m_f3, m_f4, m_f5, q_b0, q_not, and_self, q_wl0, q_wl1, q_wl48, q_wu1, q_wu2, q_wu3, q_wu5, q_wu6, q_wu7, q_wu8, q_wu15, q_wu30, q_wu40, q_wu57, q_wu60, q_wu69, q_wu99, q_wu1584, fa_wide_le, q_up_o (show (84 : Nat) ≠ 79 by decide), hg, q_v247, q_tn, true_and, e84, t1]
      refine m_reads (d := 55) hA t2 hu (fun j hj => by rw [q_up_j (by omega), e84, hA0 j hj]) (fun μ5 f5 j5 e5 c5 => ?_)
      exact h5 μ5 f5 (fun j hj => by rw [j5 j hj, q_up_o (by omega)]) e5 c5
    by_cases good : (q_whl A t u).1 = true ∧ (q_whl A t u).2.1 = t
    · have ef : q_flt t (q_whl A t u) = -1 := if_pos good
      have wf := q_wf_whl hA t2 good.1
      have w50 := wf.1
      have aft : ∀ μ4 : gM, (∀ o, o ≠ 27 → o ≠ 28 → o ≠ 29 → o ≠ 39 → o ≠ 12 + 4 * u → o ≠ 13 + 4 * u → μ4 o = μ o) → μ4 39 1 = 0 → μ4 (12 + 4 * u) 1 = nI (q_whl A t u).2.2.1 → (∀ j, j < (q_whl A t u).2.2.1 → μ4 (13 + 4 * u) j = q_enc ((q_whl A t u).2.2.2 j)) → R (some (.int 1)) μ4 := fun μ4 f4 l4 a4 b4 => by
        have e84 : μ4 84 = μ 84 := f4 84 (by omega) (by omega) (by omega) (by omega) (by omega) (by omega)
        refine hk _ _ (fun o ho => f4 o (by omega) (by omega) (by omega) (by omega) (by omega) (by omega)) (fun R2 hr2 => ?_)
        refine rdm μ4 R2 e84 (fun μ5 f5 j5 e5 c5 => ?_)
        obtain ⟨c6, c7⟩ := c5 good.1
        rw [ef] at e5
        have inner : ∀ m i, i + m = (q_whl A t u).2.2.1 → ∀ μ2 : gM, (∀ o, o ≠ 84 → μ2 o = μ5 o) → (∀ c, ¬ (97 + 50 * u ≤ c ∧ c < 147 + 50 * u) → c ≠ 75 + u → μ2 84 c = μ5 84 c) → μ2 84 (75 + u) = nI (q_whl A t u).2.2.1 → (∀ c, c < i → μ2 84 (97 + 50 * u + c) = (q_whl A t u).2.2.2 c) → gc_W (gc_S 99) cX12_text 12 0 R2 69 [.ref 83, .int (nI u), .int (nI t), .int (nI i)] [] μ2 := by
          intro m
          induction m with
          | zero =>
            intro i hi μ2 f2 o2 l2 a2
            have hi : i = (q_whl A t u).2.2.1 := hi
            have h13 : μ2 83 13 = nI i := by rw [f2 83 (by omega), c6, hi]
            refine (u169_69).mpr ?_
            simp only [u169_0, u169_1, u169_2, u169_3, u169_4, u169_7, u169_10, u169_11, u169_12, u169_15, u169_16, u169_17, u169_20, u169_21, u169_22, u169_23, u169_24, u169_27, u169_28, u169_29, u169_30, u169_31, u169_34, u169_35, u169_36, u169_39, u169_40, u169_43, u169_46, u169_48, u169_49, u169_52, u169_53, u169_54, u169_55, u169_58, u169_60, u169_61, u169_62, u169_63, u169_66, u169_67, u169_68, u169_70, u169_71, u169_74, u169_77, u169_78, u169_81, u169_83, u169_85, u169_86, u169_87, u169_88, u169_89, u169_90, u169_91, u169_94, u169_95, u169_96, u169_97, u169_100, u169_103, u169_104, ly_kd, ly_al, ly_fv0, ly_fv1, ly_fv2, ly_fv3, ly_fv4, ly_fk, ly_ra, Option.toList, List.cons_append, List.nil_append, q_ski, q_skr, q_sku, if_true, if_false, h13, show nI i ≤ nI i from Int32.le_refl _]
            have fo : ∀ o, o ≠ 84 → o ≠ 83 → o ≠ 89 → μ2 o = μ4 o := fun o a b c => by rw [f2 o a, f5 o b c, gc_up_ne a]
            have d5 : ∀ c, c ≠ 3 → μ5 84 c = μ 84 c := fun c hc => by rw [f5 84 (by omega) (by omega), q_up_j hc, e84]
            have d2 : ∀ c, c ≠ 3 → c ≠ 75 + u → ¬ (97 + 50 * u ≤ c ∧ c < 147 + 50 * u) → μ2 84 c = μ 84 c := fun c h1 h2 h3 => by rw [o2 c h3 h2, d5 c h1]
            have g83 : ∀ j, j < 5 ∨ 13 < j → μ2 83 j = μ 83 j := fun j hj => by rw [f2 83 (by omega), j5 j hj, f4 83 (by omega) (by omega) (by omega) (by omega) (by omega) (by omega)]
            refine hr2 μ2 (q_I_text I (fun o a b c d g h i j => ?_) (g83 3 (by omega)) (g83 22 (by omega)) (fun c h1 h2 h3 h4 => d2 c h2 (by omega) (by omega)) ?_ ?_ (q_ok_text ok (fun c h1 h2 h3 => d2 c h2 h3 (by omega)) (fun c h1 h2 h3 => d2 c (by omega) (by omega) h3) (by omega) l2 wf (fun c hc => a2 c (by omega))) (fun v hv => ?_)) (fun o ho => fo o (by omega) (by omega) (by omega))
            · have n89 : o ≠ 89 := fun z => a (by rw [z]; unfold q_scr; omega)
              have n27 : o ≠ 27 := fun z => a (by rw [z]; unfold q_scr; omega)
              have n28 : o ≠ 28 := fun z => a (by rw [z]; unfold q_scr; omega)
              have n29 : o ≠ 29 := fun z => a (by rw [z]; unfold q_scr; omega)
              rw [fo o b c n89]
              exact f4 o n27 n28 n29 d (by omega) (by omega)
            · rw [o2 3 (by omega) (by omega), f5 84 (by omega) (by omega), q_up_same]
            · rw [fo 39 (by omega) (by omega) (by omega)]; exact l4
            · by_cases e : v = u
              · subst e
                rw [show 11 + 4 * v + 1 = 12 + 4 * v by omega, show 11 + 4 * v + 2 = 13 + 4 * v by omega, fo (12 + 4 * v) (by omega) (by omega) (by omega), fo (13 + 4 * v) (by omega) (by omega) (by omega), l2, a4]
                refine ⟨rfl, fun n n5 hn j hj => ?_⟩
                have hn : (q_whl A t v).2.2.1 = n := (nI_eq (by omega) (by omega)).mp hn
                rw [b4 j (by omega), ← a2 j (by omega)]
                rfl
              · obtain ⟨a, b⟩ := hL v hv
                rw [fo (11 + 4 * v + 1) (by omega) (by omega) (by omega), fo (11 + 4 * v + 2) (by omega) (by omega) (by omega), f4 (11 + 4 * v + 1) (by omega) (by omega) (by omega) (by omega) (by omega) (by omega), f4 (11 + 4 * v + 2) (by omega) (by omega) (by omega) (by omega) (by omega) (by omega), d2 (75 + v) (by omega) (by omega) (by omega)]
                refine ⟨a, fun n n5 hn j hj => ?_⟩
                rw [b n n5 hn j hj]
                congr 1
                exact (d2 _ (by omega) (by omega) (by omega)).symm
          | succ m ih =>
            intro i hi μ2 f2 o2 l2 a2
            have h13 : μ2 83 13 = nI (q_whl A t u).2.2.1 := by rw [f2 83 (by omega), c6]
            have h89 : μ2 89 i = (q_whl A t u).2.2.2 i := by rw [f2 89 (by omega), c7 i (by omega)]
            have ix : (97 : Int32) + 50 * nI u + nI i = nI (97 + 50 * u + i) := by
              rw [show (50 : Int32) = nI 50 from rfl, pk_mul, show (97 : Int32) = nI 97 from rfl, nI_add, nI_add]
            refine (u169_69).mpr ?_
            simp only [u169_0, u169_1, u169_2, u169_3, u169_4, u169_7, u169_10, u169_11, u169_12, u169_15, u169_16, u169_17, u169_20, u169_21, u169_22, u169_23, u169_24, u169_27, u169_28, u169_29, u169_30, u169_31, u169_34, u169_35, u169_36, u169_39, u169_40, u169_43, u169_46, u169_48, u169_49, u169_52, u169_53, u169_54, u169_55, u169_58, u169_60, u169_61, u169_62, u169_63, u169_66, u169_67, u169_68, u169_70, u169_71, u169_74, u169_77, u169_78, u169_81, u169_83, u169_85, u169_86, u169_87, u169_88, u169_89, u169_90, u169_91, u169_94, u169_95, u169_96, u169_97, u169_100, u169_103, u169_104, ly_kd, ly_al, ly_fv0, ly_fv1, ly_fv2, ly_fv3, ly_fv4, ly_fk, ly_ra, Option.toList, List.cons_append, List.nil_append, q_ski, q_skr, q_sku, if_true, if_false, h13, show ¬ nI (q_whl A t u).2.2.1 ≤ nI i from nI_ge (by omega) (by omega), ix, vp_in_nI (show i < 60 by omega) (by decide), nI_clamp (show i < 2 ^ 31 by omega), h89, vp_in_nI (show 97 + 50 * u + i < 247 by omega) (by decide), nI_clamp (show 97 + 50 * u + i < 2 ^ 31 by omega), true_and, nI_1]
            refine ih (i + 1) (by omega) _ (fun o ho => by rw [gc_up_ne ho]; exact f2 o ho) (fun c h1 h2 => by rw [q_up_j (by omega)]; exact o2 c h1 h2) (by rw [q_up_j (by omega)]; exact l2) (fun c hc => ?_)
            by_cases z : c = i
            · subst z; exact q_up_same
            · rw [q_up_j (by omega)]; exact a2 c (by omega)
        simp only [u169_0, u169_1, u169_2, u169_3, u169_4, u169_7, u169_10, u169_11, u169_12, u169_15, u169_16, u169_17, u169_20, u169_21, u169_22, u169_23, u169_24, u169_27, u169_28, u169_29, u169_30, u169_31, u169_34, u169_35, u169_36, u169_39, u169_40, u169_43, u169_46, u169_48, u169_49, u169_52, u169_53, u169_54, u169_55, u169_58, u169_60, u169_61, u169_62, u169_63, u169_66, u169_67, u169_68, u169_70, u169_71, u169_74, u169_77, u169_78, u169_81, u169_83, u169_85, u169_86, u169_87, u169_88, u169_89, u169_90, u169_91, u169_94, u169_95, u169_96, u169_97, u169_100, u169_103, u169_104, ly_kd, ly_al, ly_fv0, ly_fv1, ly_fv2, ly_fv3, ly_fv4, ly_fk, ly_ra, Option.toList, List.cons_append, List.nil_append, q_ski, q_skr, q_sku, if_true, if_false, e5, show (-1 : Int32) < 0 by decide, e75, c6, vp_in_nI (show 75 + u < 247 by omega) (by decide), nI_clamp (show 75 + u < 2 ^ 31 by omega), true_and]
        exact inner (q_whl A t u).2.2.1 0 (Nat.zero_add _) _ (fun o ho => gc_up_ne ho) (fun c _ h2 => q_up_j h2) q_up_same (fun c hc => absurd hc (by omega))
      refine s90.mpr ?_
      simp only [u90_0, u90_1, u90_4, u90_7, u90_8, u90_9, u90_12, u90_13, u90_14, u90_17, u90_18, u90_21, u90_24, u90_25, u90_28, u90_29, u90_30, u90_33, u90_36, u90_37, u90_40, u90_41, u90_44, u90_46, u90_47, u90_48, u90_49, u90_50, u90_53, u90_56, u90_58, u90_61, u90_62, u90_65, u90_68, u90_71, u90_72, ly_kd, ly_al, ly_fv0, ly_fv1, ly_fv2, ly_fv3, ly_fv4, ly_fk, ly_ra, Option.toList, List.cons_append, List.nil_append, q_ski, q_skr, q_sku, if_true, if_false, t_upTo, t_isCell, t_isMourner, t_isKM, t_isUse, t_isSheet, t_ref1, t_ref2, t_ref3, t_ref4, t_ref5, q_b0, q_not, and_self, hg]
      refine t_read (d := 57) hA t2 hu t3 (fun j hj => by rw [hA0 j hj]; exact (t4 j hj).1) (fun μ1 f1 c1 => ?_)
      obtain ⟨c2, c3⟩ := c1 good.1
      have c2' : gc_up μ1 39 1 0 28 1 = nI (q_whl A t u).2.2.1 := by rw [q_up_o (by omega)]; exact c2
      obtain ⟨r12, r16, r20, r24, r28, r39, r41, r63, r65, r77, r80⟩ := q_rw12
      simp only [u90_0, u90_1, u90_4, u90_7, u90_8, u90_9, u90_12, u90_13, u90_14, u90_17, u90_18, u90_21, u90_24, u90_25, u90_28, u90_29, u90_30, u90_33, u90_36, u90_37, u90_40, u90_41, u90_44, u90_46, u90_47, u90_48, u90_49, u90_50, u90_53, u90_56, u90_58, u90_61, u90_62, u90_65, u90_68, u90_71, u90_72, ly_kd, ly_al, ly_fv0, ly_fv1, ly_fv2, ly_fv3, ly_fv4, ly_fk, ly_ra, Option.toList, List.cons_append, List.nil_append, q_ski, q_skr, q_sku, if_true, if_false, ef, show (-1 : Int32) < 0 by decide]
      rcases hu with rfl | rfl
      · rw [u90_57 (q := 23) rfl rfl]
        simp only [u90_0, u90_1, u90_4, u90_7, u90_8, u90_9, u90_12, u90_13, u90_14, u90_17, u90_18, u90_21, u90_24, u90_25, u90_28, u90_29, u90_30, u90_33, u90_36, u90_37, u90_40, u90_41, u90_44, u90_46, u90_47, u90_48, u90_49, u90_50, u90_53, u90_56, u90_58, u90_61, u90_62, u90_65, u90_68, u90_71, u90_72, ly_kd, ly_al, ly_fv0, ly_fv1, ly_fv2, ly_fv3, ly_fv4, ly_fk, ly_ra, Option.toList, List.cons_append, List.nil_append, q_ski, q_skr, q_sku, if_true, if_false, q_tn, vp_in_nI (n := 0) (N := 2) (by omega) (by decide), show (nI 0).toNatClampNeg = 0 by decide, true_and, Nat.mul_zero, Nat.add_zero, Nat.mul_one]
        rw [t_rowTakes r12 r28 (by omega) (by omega) c2' (by omega)]
        obtain ⟨k1, k2, k3⟩ := q_took (μ := gc_up μ1 39 1 0) (r := 12) (o := 28) (t := (q_whl A t 0).2.2.1)
        simp only [u90_0, u90_1, u90_4, u90_7, u90_8, u90_9, u90_12, u90_13, u90_14, u90_17, u90_18, u90_21, u90_24, u90_25, u90_28, u90_29, u90_30, u90_33, u90_36, u90_37, u90_40, u90_41, u90_44, u90_46, u90_47, u90_48, u90_49, u90_50, u90_53, u90_56, u90_58, u90_61, u90_62, u90_65, u90_68, u90_71, u90_72, ly_kd, ly_al, ly_fv0, ly_fv1, ly_fv2, ly_fv3, ly_fv4, ly_fk, ly_ra, Option.toList, List.cons_append, List.nil_append, q_ski, q_skr, q_sku, if_true, if_false]
        refine aft _ (fun o a b c d e f => ?_) ?_ k2 (fun j hj => ?_)
        · rw [k1 o (by omega) (by omega), gc_up_ne d, f1 o a b c]
        · rw [k1 39 (by omega) (by omega), q_up_same]
        · show gc_cp _ _ _ _ _ _ 13 j = _
          rw [k3 (by omega) (by omega) j hj, q_up_o (by omega)]; exact c3 j hj
      · rw [u90_57 (q := 23) rfl rfl]
        simp only [u90_0, u90_1, u90_4, u90_7, u90_8, u90_9, u90_12, u90_13, u90_14, u90_17, u90_18, u90_21, u90_24, u90_25, u90_28, u90_29, u90_30, u90_33, u90_36, u90_37, u90_40, u90_41, u90_44, u90_46, u90_47, u90_48, u90_49, u90_50, u90_53, u90_56, u90_58, u90_61, u90_62, u90_65, u90_68, u90_71, u90_72, ly_kd, ly_al, ly_fv0, ly_fv1, ly_fv2, ly_fv3, ly_fv4, ly_fk, ly_ra, Option.toList, List.cons_append, List.nil_append, q_ski, q_skr, q_sku, if_true, if_false, q_tn, vp_in_nI (n := 1) (N := 2) (by omega) (by decide), show (nI 1).toNatClampNeg = 1 by decide, true_and, Nat.mul_zero, Nat.add_zero, Nat.mul_one, Nat.reduceAdd]
        rw [t_rowTakes r16 r28 (by omega) (by omega) c2' (by omega)]
        obtain ⟨k1, k2, k3⟩ := q_took (μ := gc_up μ1 39 1 0) (r := 16) (o := 28) (t := (q_whl A t 1).2.2.1)
        simp only [u90_0, u90_1, u90_4, u90_7, u90_8, u90_9, u90_12, u90_13, u90_14, u90_17, u90_18, u90_21, u90_24, u90_25, u90_28, u90_29, u90_30, u90_33, u90_36, u90_37, u90_40, u90_41, u90_44, u90_46, u90_47, u90_48, u90_49, u90_50, u90_53, u90_56, u90_58, u90_61, u90_62, u90_65, u90_68, u90_71, u90_72, ly_kd, ly_al, ly_fv0, ly_fv1, ly_fv2, ly_fv3, ly_fv4, ly_fk, ly_ra, Option.toList, List.cons_append, List.nil_append, q_ski, q_skr, q_sku, if_true, if_false]
        refine aft _ (fun o a b c d e f => ?_) ?_ k2 (fun j hj => ?_)
        · rw [k1 o (by omega) (by omega), gc_up_ne d, f1 o a b c]
        · rw [k1 39 (by omega) (by omega), q_up_same]
        · show gc_cp _ _ _ _ _ _ 17 j = _
          rw [k3 (by omega) (by omega) j hj, q_up_o (by omega)]; exact c3 j hj
    · have ef : q_flt t (q_whl A t u) = nI (q_whl A t u).2.1 := if_neg good
      have nlt : ¬ nI (q_whl A t u).2.1 < 0 := Int32.not_lt.mpr (nI_pos' (by omega))
      refine s90.mpr ?_
      simp only [u90_0, u90_1, u90_4, u90_7, u90_8, u90_9, u90_12, u90_13, u90_14, u90_17, u90_18, u90_21, u90_24, u90_25, u90_28, u90_29, u90_30, u90_33, u90_36, u90_37, u90_40, u90_41, u90_44, u90_46, u90_47, u90_48, u90_49, u90_50, u90_53, u90_56, u90_58, u90_61, u90_62, u90_65, u90_68, u90_71, u90_72, ly_kd, ly_al, ly_fv0, ly_fv1, ly_fv2, ly_fv3, ly_fv4, ly_fk, ly_ra, Option.toList, List.cons_append, List.nil_append, q_ski, q_skr, q_sku, if_true, if_false, t_upTo, t_isCell, t_isMourner, t_isKM, t_isUse, t_isSheet, t_ref1, t_ref2, t_ref3, t_ref4, t_ref5, q_b0, q_not, and_self, hg]
      refine t_read (d := 57) hA t2 hu t3 (fun j hj => by rw [hA0 j hj]; exact (t4 j hj).1) (fun μ1 f1 c1 => ?_)
      simp only [u90_0, u90_1, u90_4, u90_7, u90_8, u90_9, u90_12, u90_13, u90_14, u90_17, u90_18, u90_21, u90_24, u90_25, u90_28, u90_29, u90_30, u90_33, u90_36, u90_37, u90_40, u90_41, u90_44, u90_46, u90_47, u90_48, u90_49, u90_50, u90_53, u90_56, u90_58, u90_61, u90_62, u90_65, u90_68, u90_71, u90_72, ly_kd, ly_al, ly_fv0, ly_fv1, ly_fv2, ly_fv3, ly_fv4, ly_fk, ly_ra, Option.toList, List.cons_append, List.nil_append, q_ski, q_skr, q_sku, if_true, if_false, ef, nlt]
      refine hk _ _ (q_hi_up (fun o ho => f1 o (by omega) (by omega) (by omega)) (by omega)) (fun R2 hr2 => ?_)
      have e84 : gc_up μ1 39 1 0 84 = μ 84 := by rw [gc_up_ne (by omega), f1 84 (by omega) (by omega) (by omega)]
      refine rdm _ R2 e84 (fun μ5 f5 j5 e5 c5 => ?_)
      rw [ef] at e5
      simp only [u169_0, u169_1, u169_2, u169_3, u169_4, u169_7, u169_10, u169_11, u169_12, u169_15, u169_16, u169_17, u169_20, u169_21, u169_22, u169_23, u169_24, u169_27, u169_28, u169_29, u169_30, u169_31, u169_34, u169_35, u169_36, u169_39, u169_40, u169_43, u169_46, u169_48, u169_49, u169_52, u169_53, u169_54, u169_55, u169_58, u169_60, u169_61, u169_62, u169_63, u169_66, u169_67, u169_68, u169_70, u169_71, u169_74, u169_77, u169_78, u169_81, u169_83, u169_85, u169_86, u169_87, u169_88, u169_89, u169_90, u169_91, u169_94, u169_95, u169_96, u169_97, u169_100, u169_103, u169_104, ly_kd, ly_al, ly_fv0, ly_fv1, ly_fv2, ly_fv3, ly_fv4, ly_fk, ly_ra, Option.toList, List.cons_append, List.nil_append, q_ski, q_skr, q_sku, if_true, if_false, e5, nlt]
      have fo : ∀ o, o ≠ 84 → o ≠ 83 → o ≠ 89 → μ5 o = gc_up μ1 39 1 0 o := fun o a b c => by rw [f5 o b c, gc_up_ne a]
      have d2 : ∀ c, c ≠ 3 → μ5 84 c = μ 84 c := fun c hc => by rw [f5 84 (by omega) (by omega), q_up_j hc, e84]
      have g83 : ∀ j, j < 5 ∨ 13 < j → μ5 83 j = μ 83 j := fun j hj => by rw [j5 j hj, q_up_o (by omega), f1 83 (by omega) (by omega) (by omega)]
      refine hr2 μ5 (q_I_text I (fun o a b c d g h i j => ?_) (g83 3 (by omega)) (g83 22 (by omega)) (fun c h1 h2 h3 h4 => d2 c h2) ?_ ?_ (q_ok_197 ok (fun c h1 h2 => d2 c h2)) (fun v hv => ?_)) (fun o ho => fo o (by omega) (by omega) (by omega))
      · have n89 : o ≠ 89 := fun z => a (by rw [z]; unfold q_scr; omega)
        have n27 : o ≠ 27 := fun z => a (by rw [z]; unfold q_scr; omega)
        have n28 : o ≠ 28 := fun z => a (by rw [z]; unfold q_scr; omega)
        have n29 : o ≠ 29 := fun z => a (by rw [z]; unfold q_scr; omega)
        rw [fo o b c n89, gc_up_ne d]
        exact f1 o n27 n28 n29
      · rw [f5 84 (by omega) (by omega), q_up_same]
      · rw [fo 39 (by omega) (by omega) (by omega), q_up_same]
      · obtain ⟨a, b⟩ := hL v hv
        rw [fo (11 + 4 * v + 1) (by omega) (by omega) (by omega), fo (11 + 4 * v + 2) (by omega) (by omega) (by omega), gc_up_ne (by omega), gc_up_ne (by omega), f1 (11 + 4 * v + 1) (by omega) (by omega) (by omega), f1 (11 + 4 * v + 2) (by omega) (by omega) (by omega), d2 (75 + v) (by omega)]
        refine ⟨a, fun n n5 hn j hj => ?_⟩
        rw [b n n5 hn j hj]
        congr 1
        exact (d2 _ (by omega)).symm
  · simp only [s90, u90_0, u90_1, u90_4, u90_7, u90_8, u90_9, u90_12, u90_13, u90_14, u90_17, u90_18, u90_21, u90_24, u90_25, u90_28, u90_29, u90_30, u90_33, u90_36, u90_37, u90_40, u90_41, u90_44, u90_46, u90_47, u90_48, u90_49, u90_50, u90_53, u90_56, u90_58, u90_61, u90_62, u90_65, u90_68, u90_71, u90_72, ly_kd, ly_al, ly_fv0, ly_fv1, ly_fv2, ly_fv3, ly_fv4, ly_fk, ly_ra, Option.toList, List.cons_append, List.nil_append, q_ski, q_skr, q_sku, if_true, if_false, t_upTo, t_isCell, t_isMourner, t_isKM, t_isUse, t_isSheet, t_ref1, t_ref2, t_ref3, t_ref4, t_ref5, q_b0, q_not, and_self, hg]
    refine hk _ _ (q_hi_up q_hi.rf (by omega)) (fun R2 hr2 => ?_)
    simp only [s169, u169_0, u169_1, u169_2, u169_3, u169_4, u169_7, u169_10, u169_11, u169_12, u169_15, u169_16, u169_17, u169_20, u169_21, u169_22, u169_23, u169_24, u169_27, u169_28, u169_29, u169_30, u169_31, u169_34, u169_35, u169_36, u169_39, u169_40, u169_43, u169_46, u169_48, u169_49, u169_52, u169_53, u169_54, u169_55, u169_58, u169_60, u169_61, u169_62, u169_63, u169_66, u169_67, u169_68, u169_70, u169_71, u169_74, u169_77, u169_78, u169_81, u169_83, u169_85, u169_86, u169_87, u169_88, u169_89, u169_90, u169_91, u169_94, u169_95, u169_96, u169_97, u169_100, u169_103, u169_104, ly_kd, ly_al, ly_fv0, ly_fv1, ly_fv2, ly_fv3, ly_fv4, ly_fk, ly_ra, Option.toList, List.cons_append, List.nil_append, q_ski, q_skr, q_sku, if_true, if_false, m_in, m_isCell, m_isMourner, m_isKm, m_isSheet, m_f1, m_f2, m_f3, m_f4, m_f5, q_b0, q_not, and_self, q_wl0, q_wl1, q_wl48, q_wu1, q_wu2, q_wu3, q_wu5, q_wu6, q_wu7, q_wu8, q_wu15, q_wu30, q_wu40, q_wu57, q_wu60, q_wu69, q_wu99, q_wu1584, fa_wide_le, q_up_o (show (84 : Nat) ≠ 79 by decide), hg]
    exact q_P_ref I (by omega) q_fx.rf.fy q_fx.rf.fy hr2
