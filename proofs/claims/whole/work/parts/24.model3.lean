def gc_ob (μ : gM) (o : Nat) (f : Nat → Int32) : gM := fun o' => if o' = o then f else μ o'
theorem q_ob_e {μ : gM} {o : Nat} {f : Nat → Int32} : gc_ob μ o f o = f := if_pos rfl
theorem q_ob_n {μ : gM} {o o' : Nat} {f : Nat → Int32} (h : o' ≠ o) : gc_ob μ o f o' = μ o' := if_neg h
theorem q_ob_u {μ : gM} {o j : Nat} {f : Nat → Int32} {x : Int32} : gc_up (gc_ob μ o f) o j x = gc_ob μ o (upd f j x) := by
  funext o'
  by_cases h : o' = o
  · subst h; rw [gc_up_eq, q_ob_e, q_ob_e]
  · rw [gc_up_ne h, q_ob_n h, q_ob_n h]
theorem q_up_ob {μ : gM} {o j : Nat} {x : Int32} : gc_up μ o j x = gc_ob μ o (upd (μ o) j x) := rfl
theorem q_ob_s {μ : gM} {o : Nat} : gc_ob μ o (μ o) = μ := by
  funext o'
  by_cases h : o' = o
  · subst h; rw [q_ob_e]
  · rw [q_ob_n h]
theorem m_done {d : Nat} {R : gR} {μ : gM} {z v w : Int32} : gc_S (d + 1) 166 [.int z, .int v, .int w] μ R ↔ R (some (.int (q_dn z v w))) μ := by
  simp only [s166, u166_0, u166_1, u166_84, u166_85, u166_88, u166_89, u166_92, u166_93, u166_96, u166_97, u166_98, u166_99, u166_102, u166_103, u166_106, u166_107, u166_110, u166_111, u166_112, u166_113, u166_114, u166_117, u166_118, u166_121, u166_122, u166_123, u166_124, u166_125, u166_128, u166_129, u166_132, u166_133, u166_134, u166_135, u166_136, u166_139, u166_140, u166_143, u166_144, u166_145, u166_146, u166_147, u166_148, u166_149, u166_150, u166_151, u166_152, u166_153, u166_154, u166_155, u166_156, u166_157, u166_158, u166_161, u166_162, u166_165, u166_166, u166_167, u166_168, u166_169, u166_170, u166_173, u166_174, u166_177, u166_178, u166_179, u166_180]
  unfold q_dn
  by_cases h3 : z = 60
  · subst h3
    by_cases h : v < w
    · have h' := Int32.not_le.mpr h
      simp [h, h']
    · have h' := Int32.not_lt.mp h
      simp [h, h']
  by_cases h5 : z = 62
  · subst h5
    by_cases h : w < v
    · have h' := Int32.not_le.mpr h
      simp [h, h']
    · have h' := Int32.not_lt.mp h
      simp [h, h']
  by_cases h4 : z = 61
  · subst h4
    by_cases h : v = w <;> simp [h]
  by_cases hv : v = 0 <;> by_cases hw : w = 0 <;> simp only [hv, hw, if_true, if_false, not_true, not_false_eq_true, true_and] <;>
  (by_cases h1 : z = 124
   · subst h1; simp
   by_cases h2 : z = 38
   · subst h2; simp
   by_cases h6 : z = 43
   · subst h6; simp
   by_cases h7 : z = 45
   · subst h7; simp
   by_cases h8 : z = 42
   · subst h8; simp
   by_cases h9 : z = 47
   · subst h9; simp
   simp [h1, h2, h3, h4, h5, h6, h7, h8, h9])
def q_l5 (c : Nat) (z : Int32) : Value := match c with | 0 => .retAddr 0 | _ + 1 => .int z
theorem q_skl {c : Nat} {z : Int32} : gc_sk (q_l5 c z) = true := by cases c <;> first | exact q_sku | exact q_ski
theorem q_ev_dp {nm code s0 : Nat → Int32} : ∀ n, (∀ m, m < n → q_tk (code m) (q_dp code m)) → (q_ev nm code s0 n).1 = q_dp code n
  | 0, _ => rfl
  | n + 1, h => by
    have ih := q_ev_dp (nm := nm) (s0 := s0) n (fun m hm => h m (by omega))
    show (q_st nm (code n) (q_ev nm code s0 n)).1 = _
    unfold q_st q_dp
    by_cases h1 : code n < 20000
    · rw [if_pos h1, if_pos h1, ih]
    · rw [if_neg h1, if_neg h1]
      by_cases h2 : code n = 20033
      · rw [if_pos h2, if_pos h2, ih]
      · rw [if_neg h2, if_neg h2, ih]
theorem q_dp_le {code : Nat → Int32} : ∀ n, q_dp code n ≤ n
  | 0 => Nat.le_refl _
  | n + 1 => by
    have := q_dp_le (code := code) n
    unfold q_dp
    split
    · omega
    · split <;> omega
theorem q_tk_big {z : Int32} {t : Nat} (h : q_tk z t) : (z < 20000 ∧ (z < 10000 ∨ (¬ z < 10000 ∧ vp_in (z - 10000) 3))) ∨ (¬ z < 20000 ∧ z = 20033 ∧ 1 ≤ t) ∨ (¬ z < 20000 ∧ ¬ z = 20033 ∧ 2 ≤ t) := by
  rcases h with ⟨h1, h2, -⟩ | ⟨rfl, h⟩ | ⟨h, h2⟩
  · left
    have e1 := (fa_le _ _).mp h1
    have e2 := (fa_lt _ _).mp h2
    refine ⟨?_, ?_⟩
    · rw [fa_lt]
      have : (10003 : Int32).toInt = 10003 := by decide
      have : (20000 : Int32).toInt = 20000 := by decide
      omega
    · by_cases h3 : z < 10000
      · exact Or.inl h3
      · refine Or.inr ⟨h3, ?_⟩
        have e3 := (fa_le _ _).mp (Int32.not_lt.mp h3)
        have hle : z ≤ 10002 := by
          rw [fa_le]
          have a1 : (10003 : Int32).toInt = 10003 := by decide
          have a2 : (10002 : Int32).toInt = 10002 := by decide
          omega
        obtain ⟨j, hj, rfl⟩ := q_rng (n := 10002) (K := 10002) (by decide) ⟨h1, hle⟩
        rw [nI_toInt (by omega), show (10000 : Int32).toInt = 10000 by decide] at e3
        rw [show (10000 : Int32) = nI 10000 from rfl, pk_sub (by omega)]
        exact vp_in_nI (by omega) (by decide)
  · exact Or.inr (Or.inl ⟨by decide, rfl, h⟩)
  · right; right
    rcases h with rfl | rfl | rfl | rfl | rfl | rfl | rfl | rfl | rfl | rfl <;> exact ⟨by decide, by decide, h2⟩
set_option maxHeartbeats 1000000 in
theorem m_worked {d : Nat} {R : gR} {μ : gM} {f n : Nat} (hfn : f + n ≤ 247) (hwf : q_wf (fun j => μ 84 (f + j)) n) : gc_S (d + 2) 167 [.ref 83, .int (nI f), .int (nI n)] μ R ↔ R (some (.int ((q_ev (μ 88) (fun j => μ 84 (f + j)) (μ 90) n).2 0))) (gc_ob μ 90 (q_ev (μ 88) (fun j => μ 84 (f + j)) (μ 90) n).2) := by
  obtain ⟨h50, htk, -⟩ := hwf
  simp only [s167, u167_0, u167_1, u167_2, u167_3, u167_7, u167_8, u167_9, u167_10, u167_13, u167_14, u167_17, u167_19, u167_20, u167_22, u167_24, u167_27, u167_30, u167_31, u167_34, u167_35, u167_37, u167_40, u167_43, u167_45, u167_48, u167_49, u167_52, u167_54, u167_57, u167_58, u167_59, u167_60, u167_63, u167_66, u167_68, u167_71, u167_74, u167_75, u167_78, u167_79, u167_80, u167_81, u167_82, u167_85, u167_86, u167_87, u167_88, u167_89, u167_92, u167_93, u167_96, u167_97, u167_98, u167_101, u167_104, u167_105, u167_108, u167_109, u167_110, u167_111, u167_113, u167_116, u167_117, u167_118, u167_121, u167_122, u167_123, u167_124, u167_125, u167_126, u167_129, u167_130, u167_131, u167_134, u167_135, u167_138, u167_141, u167_142, u167_145, u167_146, u167_147, Option.toList, List.cons_append, List.nil_append, q_ski, q_skr, q_sku, if_true, if_false]
  refine q_loop0 (X := fun c => gc_W (gc_S (d+1)) cX12_worked 12 0 R 5 [.ref 83, .int (nI f), .int (nI n), .int (nI (q_dp (fun j => μ 84 (f + j)) c)), .int (nI (f + c)), q_l5 c (μ 84 (f + (c - 1)))] [] (gc_ob μ 90 (q_ev (μ 88) (fun j => μ 84 (f + j)) (μ 90) c).2)) n ?_ (fun c hc => (u167_5).trans ?_) ?_
  · show _ ↔ gc_W (gc_S (d + 1)) cX12_worked 12 0 R 5 [.ref 83, .int (nI f), .int (nI n), .int (nI 0), .int (nI f), .retAddr 0] [] (gc_ob μ 90 (μ 90))
    rw [q_ob_s]
    exact Iff.rfl
  · have hl : ¬ nI f + nI n ≤ nI (f + c) := by rw [nI_add]; exact fun h => absurd h (nI_ge (by omega) (by omega))
    have hv : vp_in (nI (f + c)) 247 := vp_in_nI (by omega) (by decide)
    have hcl : (nI (f + c)).toNatClampNeg = f + c := nI_clamp (by omega)
    have hdp := q_ev_dp (nm := μ 88) (s0 := μ 90) c (fun m hm => htk m (by omega))
    have hdl := q_dp_le (code := fun j => μ 84 (f + j)) c
    have hz := htk c hc
    have e4 : ∀ P, gc_ob μ 90 P 84 = μ 84 := fun P => q_ob_n (by decide)
    have e8 : ∀ P, gc_ob μ 90 P 88 = μ 88 := fun P => q_ob_n (by decide)
    have e9 : ∀ P, gc_ob μ 90 P 90 = P := fun P => q_ob_e
    have hq : (q_ev (μ 88) (fun j => μ 84 (f + j)) (μ 90) (c + 1)) = q_st (μ 88) (μ 84 (f + c)) (q_ev (μ 88) (fun j => μ 84 (f + j)) (μ 90) c) := rfl
    have hd1 : q_dp (fun j => μ 84 (f + j)) (c + 1) = if μ 84 (f + c) < 20000 then q_dp (fun j => μ 84 (f + j)) c + 1 else if μ 84 (f + c) = 20033 then q_dp (fun j => μ 84 (f + j)) c else q_dp (fun j => μ 84 (f + j)) c - 1 := rfl
    have hl5 : q_l5 (c + 1) (μ 84 (f + (c + 1 - 1))) = .int (μ 84 (f + c)) := rfl
    rw [hq, hd1, hl5]
    generalize q_ev (μ 88) (fun j => μ 84 (f + j)) (μ 90) c = E at *
    generalize q_dp (fun j => μ 84 (f + j)) c = t at *
    obtain ⟨t', P⟩ := E
    subst hdp
    have hnf : nI (f + c) + 1 = nI (f + (c + 1)) := nI_1 (f + c)
    rcases q_tk_big hz with ⟨h1, h2⟩ | ⟨h1, h2, h3⟩ | ⟨h1, h2, h3⟩
    · have h1' : ¬ (20000 : Int32) ≤ μ 84 (f + c) := Int32.not_le.mpr h1
      have hv2 : vp_in (nI t') 60 := vp_in_nI (by omega) (by decide)
      have hc2 : (nI t').toNatClampNeg = t' := nI_clamp (by omega)
      have hs : nI t' + 1 = nI (t' + 1) := nI_1 t'
      rcases h2 with h2 | ⟨h2, h3⟩
      · have h2' : ¬ (10000 : Int32) ≤ μ 84 (f + c) := Int32.not_le.mpr h2
        simp only [u167_0, u167_1, u167_2, u167_3, u167_7, u167_8, u167_9, u167_10, u167_13, u167_14, u167_17, u167_19, u167_20, u167_22, u167_24, u167_27, u167_30, u167_31, u167_34, u167_35, u167_37, u167_40, u167_43, u167_45, u167_48, u167_49, u167_52, u167_54, u167_57, u167_58, u167_59, u167_60, u167_63, u167_66, u167_68, u167_71, u167_74, u167_75, u167_78, u167_79, u167_80, u167_81, u167_82, u167_85, u167_86, u167_87, u167_88, u167_89, u167_92, u167_93, u167_96, u167_97, u167_98, u167_101, u167_104, u167_105, u167_108, u167_109, u167_110, u167_111, u167_113, u167_116, u167_117, u167_118, u167_121, u167_122, u167_123, u167_124, u167_125, u167_126, u167_129, u167_130, u167_131, u167_134, u167_135, u167_138, u167_141, u167_142, u167_145, u167_146, u167_147, ly_kd, ly_al, ly_fv0, ly_fv1, ly_fv2, ly_fv3, ly_fv4, ly_fk, ly_ra, Option.toList, List.cons_append, List.nil_append, q_ski, q_skr, q_sku, if_true, if_false, q_skl, hl, hv, hcl, e4, e8, e9, q_ob_u, h1, h1', h2, h2', hv2, hc2, hs, hnf, q_st, true_and]
      · have h2' : (10000 : Int32) ≤ μ 84 (f + c) := Int32.not_lt.mp h2
        simp only [u167_0, u167_1, u167_2, u167_3, u167_7, u167_8, u167_9, u167_10, u167_13, u167_14, u167_17, u167_19, u167_20, u167_22, u167_24, u167_27, u167_30, u167_31, u167_34, u167_35, u167_37, u167_40, u167_43, u167_45, u167_48, u167_49, u167_52, u167_54, u167_57, u167_58, u167_59, u167_60, u167_63, u167_66, u167_68, u167_71, u167_74, u167_75, u167_78, u167_79, u167_80, u167_81, u167_82, u167_85, u167_86, u167_87, u167_88, u167_89, u167_92, u167_93, u167_96, u167_97, u167_98, u167_101, u167_104, u167_105, u167_108, u167_109, u167_110, u167_111, u167_113, u167_116, u167_117, u167_118, u167_121, u167_122, u167_123, u167_124, u167_125, u167_126, u167_129, u167_130, u167_131, u167_134, u167_135, u167_138, u167_141, u167_142, u167_145, u167_146, u167_147, ly_kd, ly_al, ly_fv0, ly_fv1, ly_fv2, ly_fv3, ly_fv4, ly_fk, ly_ra, Option.toList, List.cons_append, List.nil_append, q_ski, q_skr, q_sku, if_true, if_false, q_skl, hl, hv, hcl, e4, e8, e9, q_ob_u, h1, h1', h2, h2', h3, hv2, hc2, hs, hnf, q_st, true_and]
    · have h1' : (20000 : Int32) ≤ μ 84 (f + c) := Int32.not_lt.mp h1
      have hm : nI t' - 1 = nI (t' - 1) := by rw [show (1 : Int32) = nI 1 from rfl, pk_sub h3]
      have hv2 : vp_in (nI (t' - 1)) 60 := vp_in_nI (by omega) (by decide)
      have hc2 : (nI (t' - 1)).toNatClampNeg = t' - 1 := nI_clamp (by omega)
      have h2 := eq_true h2
      by_cases h5 : P (t' - 1) = 0
      · simp only [u167_0, u167_1, u167_2, u167_3, u167_7, u167_8, u167_9, u167_10, u167_13, u167_14, u167_17, u167_19, u167_20, u167_22, u167_24, u167_27, u167_30, u167_31, u167_34, u167_35, u167_37, u167_40, u167_43, u167_45, u167_48, u167_49, u167_52, u167_54, u167_57, u167_58, u167_59, u167_60, u167_63, u167_66, u167_68, u167_71, u167_74, u167_75, u167_78, u167_79, u167_80, u167_81, u167_82, u167_85, u167_86, u167_87, u167_88, u167_89, u167_92, u167_93, u167_96, u167_97, u167_98, u167_101, u167_104, u167_105, u167_108, u167_109, u167_110, u167_111, u167_113, u167_116, u167_117, u167_118, u167_121, u167_122, u167_123, u167_124, u167_125, u167_126, u167_129, u167_130, u167_131, u167_134, u167_135, u167_138, u167_141, u167_142, u167_145, u167_146, u167_147, ly_kd, ly_al, ly_fv0, ly_fv1, ly_fv2, ly_fv3, ly_fv4, ly_fk, ly_ra, Option.toList, List.cons_append, List.nil_append, q_ski, q_skr, q_sku, if_true, if_false, q_skl, hl, hv, hcl, e4, e8, e9, q_ob_u, h1, h1', h2, hm, hv2, hc2, hnf, q_st, true_and, h5]
      · simp only [u167_0, u167_1, u167_2, u167_3, u167_7, u167_8, u167_9, u167_10, u167_13, u167_14, u167_17, u167_19, u167_20, u167_22, u167_24, u167_27, u167_30, u167_31, u167_34, u167_35, u167_37, u167_40, u167_43, u167_45, u167_48, u167_49, u167_52, u167_54, u167_57, u167_58, u167_59, u167_60, u167_63, u167_66, u167_68, u167_71, u167_74, u167_75, u167_78, u167_79, u167_80, u167_81, u167_82, u167_85, u167_86, u167_87, u167_88, u167_89, u167_92, u167_93, u167_96, u167_97, u167_98, u167_101, u167_104, u167_105, u167_108, u167_109, u167_110, u167_111, u167_113, u167_116, u167_117, u167_118, u167_121, u167_122, u167_123, u167_124, u167_125, u167_126, u167_129, u167_130, u167_131, u167_134, u167_135, u167_138, u167_141, u167_142, u167_145, u167_146, u167_147, ly_kd, ly_al, ly_fv0, ly_fv1, ly_fv2, ly_fv3, ly_fv4, ly_fk, ly_ra, Option.toList, List.cons_append, List.nil_append, q_ski, q_skr, q_sku, if_true, if_false, q_skl, hl, hv, hcl, e4, e8, e9, q_ob_u, h1, h1', h2, hm, hv2, hc2, hnf, q_st, true_and, h5]
    · have h1' : (20000 : Int32) ≤ μ 84 (f + c) := Int32.not_lt.mp h1
      have hm : nI t' + (-1) = nI (t' - 1) := by
        have := pk_m1 (t' - 1)
        rwa [show t' - 1 + 1 = t' by omega] at this
      have hm2 : nI (t' - 1) - 1 = nI (t' - 2) := by rw [show (1 : Int32) = nI 1 from rfl, pk_sub (by omega)]; congr 1
      have hv2 : vp_in (nI (t' - 1)) 60 := vp_in_nI (by omega) (by decide)
      have hc2 : (nI (t' - 1)).toNatClampNeg = t' - 1 := nI_clamp (by omega)
      have hv3 : vp_in (nI (t' - 2)) 60 := vp_in_nI (by omega) (by decide)
      have hc3 : (nI (t' - 2)).toNatClampNeg = t' - 2 := nI_clamp (by omega)
      simp only [u167_0, u167_1, u167_2, u167_3, u167_7, u167_8, u167_9, u167_10, u167_13, u167_14, u167_17, u167_19, u167_20, u167_22, u167_24, u167_27, u167_30, u167_31, u167_34, u167_35, u167_37, u167_40, u167_43, u167_45, u167_48, u167_49, u167_52, u167_54, u167_57, u167_58, u167_59, u167_60, u167_63, u167_66, u167_68, u167_71, u167_74, u167_75, u167_78, u167_79, u167_80, u167_81, u167_82, u167_85, u167_86, u167_87, u167_88, u167_89, u167_92, u167_93, u167_96, u167_97, u167_98, u167_101, u167_104, u167_105, u167_108, u167_109, u167_110, u167_111, u167_113, u167_116, u167_117, u167_118, u167_121, u167_122, u167_123, u167_124, u167_125, u167_126, u167_129, u167_130, u167_131, u167_134, u167_135, u167_138, u167_141, u167_142, u167_145, u167_146, u167_147, ly_kd, ly_al, ly_fv0, ly_fv1, ly_fv2, ly_fv3, ly_fv4, ly_fk, ly_ra, Option.toList, List.cons_append, List.nil_append, q_ski, q_skr, q_sku, if_true, if_false, q_skl, hl, hv, hcl, e4, e8, e9, q_ob_u, h1, h1', h2, hm, hm2, hv2, hc2, hv3, hc3, hnf, q_st, true_and, m_done]
  · have hl : nI f + nI n ≤ nI (f + n) := by rw [nI_add]; exact Int32.le_refl _
    have e9 : ∀ P, gc_ob μ 90 P 90 = P := fun P => q_ob_e
    simp only [u167_0, u167_1, u167_2, u167_3, u167_5, u167_7, u167_8, u167_9, u167_10, u167_13, u167_14, u167_17, u167_19, u167_20, u167_22, u167_24, u167_27, u167_30, u167_31, u167_34, u167_35, u167_37, u167_40, u167_43, u167_45, u167_48, u167_49, u167_52, u167_54, u167_57, u167_58, u167_59, u167_60, u167_63, u167_66, u167_68, u167_71, u167_74, u167_75, u167_78, u167_79, u167_80, u167_81, u167_82, u167_85, u167_86, u167_87, u167_88, u167_89, u167_92, u167_93, u167_96, u167_97, u167_98, u167_101, u167_104, u167_105, u167_108, u167_109, u167_110, u167_111, u167_113, u167_116, u167_117, u167_118, u167_121, u167_122, u167_123, u167_124, u167_125, u167_126, u167_129, u167_130, u167_131, u167_134, u167_135, u167_138, u167_141, u167_142, u167_145, u167_146, u167_147, ly_kd, ly_al, ly_fv0, ly_fv1, ly_fv2, ly_fv3, ly_fv4, ly_fk, ly_ra, Option.toList, List.cons_append, List.nil_append, q_ski, q_skr, q_sku, if_true, if_false, hl, e9, q_tn, q_vp (by decide : ¬ ((0 : Int32) < 0 ∨ 60 ≤ (0 : Int32).toNatClampNeg)), true_and]
