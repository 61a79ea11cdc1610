theorem q_ct_le {p : Nat → Bool} : ∀ n, q_ct p n ≤ n
  | 0 => Nat.le_refl _
  | n + 1 => by
    have := q_ct_le (p := p) n
    show q_ct p n + (if p n = true then 1 else 0) ≤ n + 1
    split <;> omega
theorem q_m1s {m : Nat} : nI m + (-1) = nI m - 1 := (Int32.sub_eq_add_neg (nI m) 1).symm
def q_fs (p : Nat → Bool) (c : Nat) : Int32 := if q_first (fun v => p v = true) c (100 - c) = 100 then -1 else nI (q_first (fun v => p v = true) c (100 - c))
theorem q_fs_s {p : Nat → Bool} {m : Nat} (h : m < 100) : q_fs p m = if p m = true then nI m else q_fs p (m + 1) := by
  unfold q_fs
  rw [show 100 - m = (100 - (m + 1)) + 1 by omega]
  have e : q_first (fun v => p v = true) m (100 - (m + 1) + 1) = if p m = true then m else q_first (fun v => p v = true) (m + 1) (100 - (m + 1)) := rfl
  rw [e]
  by_cases hp : p m = true
  · rw [if_pos hp, if_pos hp, if_neg (by omega)]
  · rw [if_neg hp, if_neg hp]
set_option maxHeartbeats 1000000 in
theorem m_sorry {d : Nat} {R : gR} {μ : gM} {s k w : Int32} {y : Nat} (hok : q_ok (μ 84)) (hy : μ 84 1 = nI y) (hy2 : y ≤ 10000) (hsz : ∀ s, s < 4 → ∃ n, μ 99 s = nI n ∧ n ≤ 40) (h : if (0 ≤ s ∧ s ≤ 3) ∧ (0 ≤ k ∧ k ≤ μ 84 0 - 1) ∧ 0 ≤ w ∧ w ≤ 1 then (if μ 98 s.toNatClampNeg = 0 then R (some (.int (-1000000002))) (gc_up μ 87 2 (μ 87 2 + 1)) else if w = 0 then ∀ μ', q_f2 μ μ' → R (some (.int (nI (q_ct (q_tv (μ 84) (fun j => μ 100 (40 * s.toNatClampNeg + j)) (45 + 4 * k.toNatClampNeg) (μ 99 s.toNatClampNeg).toNatClampNeg) 100)))) μ' else if q_first (fun v => q_tv (μ 84) (fun j => μ 100 (40 * s.toNatClampNeg + j)) (45 + 4 * k.toNatClampNeg) (μ 99 s.toNatClampNeg).toNatClampNeg v = true) 0 100 = 100 then ∀ μ', q_f2 μ μ' → R (some (.int (-1000000002))) (gc_up μ' 87 2 (μ' 87 2 + 1)) else ∀ μ', q_f2 μ μ' → R (some (.int (nI (q_first (fun v => q_tv (μ 84) (fun j => μ 100 (40 * s.toNatClampNeg + j)) (45 + 4 * k.toNatClampNeg) (μ 99 s.toNatClampNeg).toNatClampNeg v = true) 0 100)))) μ') else R (some (.int (-1000000001))) (gc_up μ 87 1 (μ 87 1 + 1))) : gc_S (d + 8) 230 [.ref 83, .int s, .int k, .int w] μ R := by
  simp only [s230, u230_0, u230_1, u230_4, u230_7, u230_8, u230_9, u230_12, u230_15, u230_16, u230_17, u230_18, u230_19, u230_22, u230_25, u230_26, u230_27, u230_30, u230_31, u230_32, u230_35, u230_36, u230_37, u230_40, u230_41, u230_42, u230_45, u230_46, u230_47, u230_50, u230_51, u230_53, u230_54, u230_56, u230_58, u230_62, u230_65, u230_66, u230_67, u230_68, u230_70, u230_73, u230_74, u230_75, u230_78, u230_80, u230_82, u230_84, u230_87, u230_88, u230_91, u230_92, u230_93, u230_95, u230_97, u230_100, u230_102, u230_105, u230_107, u230_109, u230_112, u230_115, u230_116, u230_119, u230_121, u230_124, u230_126, u230_129, u230_130, u230_131, u230_134, u230_137, u230_139, ly_kd, ly_al, ly_fv0, ly_fv1, ly_fv2, ly_fv3, ly_fv4, ly_fk, ly_ra, Option.toList, List.cons_append, List.nil_append, q_ski, q_skr, q_sku, if_true, if_false, m_isSheet, m_isMourner, m_in, m_f1, m_f2, m_keepAside, q_b0, q_not, q_wl0, q_wl1, q_wl48, q_wu1, q_wu2, q_wu3, q_wu5, q_wu6, q_wu7, q_wu8, q_wu15, q_wu30, q_wu40, q_wu57, q_wu60, q_wu69, q_wu99, q_wu1584, fa_wide_le]
  by_cases h1 : 0 ≤ s ∧ s ≤ 3
  · by_cases h2 : 0 ≤ k ∧ k ≤ μ 84 0 - 1
    · by_cases h4 : 0 ≤ w ∧ w ≤ 1
      · rw [if_pos ⟨h1, h2, h4⟩] at h
        simp only [h1, h2, h4, and_self, if_true]
        obtain ⟨i, m, rfl, hi, hm, hm0⟩ := q_mrn hok h2
        obtain ⟨s, hs, rfl⟩ := q_rng (n := 3) rfl h1
        obtain ⟨n, hn, hn4⟩ := hsz s (by omega)
        rw [nI_clamp (by omega), nI_clamp (by omega), hn, nI_clamp (by omega)] at h
        have vs : vp_in (nI s) 4 := vp_in_nI (by omega) (by decide)
        have cs : (nI s).toNatClampNeg = s := nI_clamp (by omega)
        simp only [vs, cs, true_and]
        by_cases h3 : μ 98 s = 0
        · rw [if_pos h3] at h
          simp only [h3, if_true]
          exact h
        · rw [if_neg h3] at h
          simp only [h3, if_false]
          have vi : vp_in (nI (45 + 4 * i)) 247 := vp_in_nI (by omega) (by decide)
          have ci : (nI (45 + 4 * i)).toNatClampNeg = 45 + 4 * i := nI_clamp (by omega)
          generalize hp : q_tv (μ 84) (fun j => μ 100 (40 * s + j)) (45 + 4 * i) n = p at h
          have main : ∀ c, c ≤ 100 → ∀ t, t + q_ct p c = q_ct p 100 → ∀ μ1, q_td μ μ1 → ∀ l7, gc_sk l7 = true → gc_W (gc_S (d+7)) cX12_sorry 12 0 R 60 [.ref 83, .int (nI s), .int (nI i), .int w, .int (nI t), .int (q_fs p c), .int (nI c - 1), l7] [] μ1 := by
            intro c
            induction c with
            | zero =>
              intro _ t ht μ1 t1 l7 h7
              have ht : t = q_ct p 100 := ht
              refine (u230_60).mpr ?_
              simp only [u230_0, u230_1, u230_4, u230_7, u230_8, u230_9, u230_12, u230_15, u230_16, u230_17, u230_18, u230_19, u230_22, u230_25, u230_26, u230_27, u230_30, u230_31, u230_32, u230_35, u230_36, u230_37, u230_40, u230_41, u230_42, u230_45, u230_46, u230_47, u230_50, u230_51, u230_53, u230_54, u230_56, u230_58, u230_62, u230_65, u230_66, u230_67, u230_68, u230_70, u230_73, u230_74, u230_75, u230_78, u230_80, u230_82, u230_84, u230_87, u230_88, u230_91, u230_92, u230_93, u230_95, u230_97, u230_100, u230_102, u230_105, u230_107, u230_109, u230_112, u230_115, u230_116, u230_119, u230_121, u230_124, u230_126, u230_129, u230_130, u230_131, u230_134, u230_137, u230_139, show nI 0 - 1 < 0 by decide, if_true]
              by_cases w0 : w = 0
              · rw [if_pos w0] at h
                simp only [w0, if_true]
                rw [ht]
                exact h μ1 t1.1
              · rw [if_neg w0] at h
                simp only [w0, if_false]
                unfold q_fs
                rw [show 100 - 0 = 100 from rfl]
                by_cases hf : q_first (fun v => p v = true) 0 100 = 100
                · rw [if_pos hf] at h
                  simp only [hf, if_true, show ¬ (0 : Int32) ≤ -1 by decide, if_false, m_f2, u230_0, u230_1, u230_4, u230_7, u230_8, u230_9, u230_12, u230_15, u230_16, u230_17, u230_18, u230_19, u230_22, u230_25, u230_26, u230_27, u230_30, u230_31, u230_32, u230_35, u230_36, u230_37, u230_40, u230_41, u230_42, u230_45, u230_46, u230_47, u230_50, u230_51, u230_53, u230_54, u230_56, u230_58, u230_62, u230_65, u230_66, u230_67, u230_68, u230_70, u230_73, u230_74, u230_75, u230_78, u230_80, u230_82, u230_84, u230_87, u230_88, u230_91, u230_92, u230_93, u230_95, u230_97, u230_100, u230_102, u230_105, u230_107, u230_109, u230_112, u230_115, u230_116, u230_119, u230_121, u230_124, u230_126, u230_129, u230_130, u230_131, u230_134, u230_137, u230_139, ly_kd, ly_al, ly_fv0, ly_fv1, ly_fv2, ly_fv3, ly_fv4, ly_fk, ly_ra, Option.toList, List.cons_append, List.nil_append, q_ski, q_skr, q_sku, if_true, if_false]
                  exact h μ1 t1.1
                · rw [if_neg hf] at h
                  have hle := q_first_le (fun v => p v = true) 100 0
                  simp only [hf, if_false, show 0 ≤ nI (q_first (fun v => p v = true) 0 100) from nI_pos' (by omega), if_true]
                  exact h μ1 t1.1
            | succ m ih =>
              intro hc t ht μ1 t1 l7 h7
              refine (u230_60).mpr ?_
              simp only [u230_0, u230_1, u230_4, u230_7, u230_8, u230_9, u230_12, u230_15, u230_16, u230_17, u230_18, u230_19, u230_22, u230_25, u230_26, u230_27, u230_30, u230_31, u230_32, u230_35, u230_36, u230_37, u230_40, u230_41, u230_42, u230_45, u230_46, u230_47, u230_50, u230_51, u230_53, u230_54, u230_56, u230_58, u230_62, u230_65, u230_66, u230_67, u230_68, u230_70, u230_73, u230_74, u230_75, u230_78, u230_80, u230_82, u230_84, u230_87, u230_88, u230_91, u230_92, u230_93, u230_95, u230_97, u230_100, u230_102, u230_105, u230_107, u230_109, u230_112, u230_115, u230_116, u230_119, u230_121, u230_124, u230_126, u230_129, u230_130, u230_131, u230_134, u230_137, u230_139, nI_pred, nI_pos (show m < 2 ^ 31 by omega), if_false, ly_kd, ly_al, ly_fv0, ly_fv1, ly_fv2, ly_fv3, ly_fv4, ly_fk, ly_ra, Option.toList, List.cons_append, List.nil_append, q_ski, q_skr, q_sku, if_true, if_false, m_sets, q_43s, vi, ci, true_and]
              refine m_trial (v := m) (w := 45 + 4 * i) (q_ok_upd hok (by omega) (fun _ => by omega) (fun _ _ => by omega) (fun _ _ => by omega) (fun _ _ => by omega) (fun _ _ => by omega)) (by omega) hy hy2 (by omega) hn4 hn t1 (fun μ2 t2 => ?_)
              rw [hp]
              have es : q_ct p (m + 1) = q_ct p m + (if p m = true then 1 else 0) := rfl
              have ef := q_fs_s (p := p) (m := m) (by omega)
              by_cases e : p m = true
              · rw [if_pos e] at es ef
                have nx := ih (by omega) (t + 1) (by omega) μ2 t2 (.int (q_b (p m = true))) rfl
                rw [ef] at nx
                rw [q_bt e] at nx
                simp only [u230_0, u230_1, u230_4, u230_7, u230_8, u230_9, u230_12, u230_15, u230_16, u230_17, u230_18, u230_19, u230_22, u230_25, u230_26, u230_27, u230_30, u230_31, u230_32, u230_35, u230_36, u230_37, u230_40, u230_41, u230_42, u230_45, u230_46, u230_47, u230_50, u230_51, u230_53, u230_54, u230_56, u230_58, u230_62, u230_65, u230_66, u230_67, u230_68, u230_70, u230_73, u230_74, u230_75, u230_78, u230_80, u230_82, u230_84, u230_87, u230_88, u230_91, u230_92, u230_93, u230_95, u230_97, u230_100, u230_102, u230_105, u230_107, u230_109, u230_112, u230_115, u230_116, u230_119, u230_121, u230_124, u230_126, u230_129, u230_130, u230_131, u230_134, u230_137, u230_139, q_bt e, show ¬ (1 : Int32) = 0 by decide, ly_kd, ly_al, ly_fv0, ly_fv1, ly_fv2, ly_fv3, ly_fv4, ly_fk, ly_ra, Option.toList, List.cons_append, List.nil_append, q_ski, q_skr, q_sku, if_true, if_false, h7, nI_1, q_m1s]
                exact nx
              · rw [if_neg e] at es ef
                have nx := ih (by omega) t (by omega) μ2 t2 (.int (q_b (p m = true))) rfl
                rw [ef] at nx
                rw [q_bf e] at nx
                simp only [u230_0, u230_1, u230_4, u230_7, u230_8, u230_9, u230_12, u230_15, u230_16, u230_17, u230_18, u230_19, u230_22, u230_25, u230_26, u230_27, u230_30, u230_31, u230_32, u230_35, u230_36, u230_37, u230_40, u230_41, u230_42, u230_45, u230_46, u230_47, u230_50, u230_51, u230_53, u230_54, u230_56, u230_58, u230_62, u230_65, u230_66, u230_67, u230_68, u230_70, u230_73, u230_74, u230_75, u230_78, u230_80, u230_82, u230_84, u230_87, u230_88, u230_91, u230_92, u230_93, u230_95, u230_97, u230_100, u230_102, u230_105, u230_107, u230_109, u230_112, u230_115, u230_116, u230_119, u230_121, u230_124, u230_126, u230_129, u230_130, u230_131, u230_134, u230_137, u230_139, q_bf e, ly_kd, ly_al, ly_fv0, ly_fv1, ly_fv2, ly_fv3, ly_fv4, ly_fk, ly_ra, Option.toList, List.cons_append, List.nil_append, q_ski, q_skr, q_sku, if_true, if_false, h7, Int32.add_zero, q_m1s]
                exact nx
          exact main 100 (by omega) 0 (by omega) _ q_td0 _ rfl
      · rw [if_neg (fun q => h4 q.2.2)] at h
        simp only [h1, h2, h4, and_self, if_true, if_false]
        exact h
    · rw [if_neg (fun q => h2 q.2.1)] at h
      simp only [h1, h2, and_self, if_true, if_false]
      exact h
  · rw [if_neg (fun q => h1 q.1)] at h
    simp only [h1, if_false]
    exact h
