/-! the cloth: what a text gives -/
def q_enc (z : Int32) : Int32 := if z < 10000 then z else if z < 20000 then 9999 - z else 20000 - z
def q_W (o : Nat) : Prop := gc_kd o = 2 ∧ (∀ μ, gc_fv o 0 μ = .ref (o + 1)) ∧ (∀ μ, gc_fv o 1 μ = .ref (o + 3)) ∧ gc_kd (o + 1) = 7 ∧ (∀ μ, gc_fv (o + 1) 0 μ = .ref (o + 2)) ∧ (∀ μ, gc_fv (o + 1) 1 μ = .int (μ (o + 1) 1)) ∧ gc_kd (o + 2) = 20 ∧ gc_kd (o + 3) = 20 ∧ gc_al (o + 2) = 50 ∧ gc_al (o + 3) = 50 ∧ gc_fk (o + 1) 1 = 0
theorem q_W11 : q_W 11 := ⟨rfl, fun _ => rfl, fun _ => rfl, rfl, fun _ => rfl, fun _ => rfl, rfl, rfl, rfl, rfl, rfl⟩
theorem q_W15 : q_W 15 := ⟨rfl, fun _ => rfl, fun _ => rfl, rfl, fun _ => rfl, fun _ => rfl, rfl, rfl, rfl, rfl, rfl⟩
theorem q_Wu {u : Nat} (hu : u < 2) : q_W (11 + 4 * u) := by
  rcases (show u = 0 ∨ u = 1 by omega) with rfl | rfl
  · exact q_W11
  · exact q_W15
def q_sg (z : Int32) : Prop := z = 124 ∨ z = 38 ∨ z = 60 ∨ z = 61 ∨ z = 62 ∨ z = 43 ∨ z = 45 ∨ z = 42 ∨ z = 47 ∨ z = 37
theorem t_joined {d : Nat} {R : gR} {μ : gM} {z v w : Int32} (hz : q_sg z) : gc_S (d + 1) 10 [.int z, .int v, .int w] μ R ↔ R (some (.int (q_dn z v w))) μ := by
  simp only [s10, u10_0, u10_1, u10_120, u10_121, u10_122, u10_123, u10_124, u10_125, u10_126, u10_127, u10_128, u10_129, u10_130, u10_131, u10_132, u10_133, u10_136, u10_137, u10_140, u10_141, u10_142, u10_143, u10_144, u10_145, u10_148, u10_149, u10_152, u10_153, u10_154, u10_155, u10_156, u10_157, u10_158, u10_161, u10_162, u10_165, u10_166, u10_167, u10_168, u10_169, u10_172, u10_173, u10_176, u10_177, u10_178, u10_179, u10_180, u10_183, u10_184, u10_187, u10_188, u10_189, u10_190, u10_193, u10_194, u10_197, u10_198, u10_201, u10_202, u10_203, u10_204, u10_207, u10_208, u10_211, u10_212, u10_215, u10_216]
  unfold q_dn
  rcases hz with rfl | rfl | rfl | rfl | rfl | rfl | rfl | rfl | rfl | rfl
  · by_cases hv : v = 0 <;> by_cases hw : w = 0 <;> simp [hv, hw]
  · by_cases hv : v = 0 <;> by_cases hw : w = 0 <;> simp [hv, hw]
  · by_cases h : v < w
    · simp [h, Int32.not_le.mpr h]
    · simp [h, Int32.not_lt.mp h]
  · by_cases h : v = w <;> simp [h]
  · by_cases h : w < v
    · simp [h, Int32.not_le.mpr h]
    · simp [h, Int32.not_lt.mp h]
  · simp
  · simp
  · simp
  · by_cases hw : w = 0 <;> simp [hw]
  · by_cases hw : w = 0 <;> simp [hw]
theorem q_tk_cl {z : Int32} {t : Nat} (h : q_tk z t) : (z < 20000 ∧ z < 10000 ∧ q_enc z = z ∧ ¬ z < -3 ∧ ¬ z < 0 ∧ t < 50) ∨ (t < 50 ∧ (z = 10000 ∨ z = 10001 ∨ z = 10002)) ∨ (z = 20033 ∧ 1 ≤ t) ∨ (¬ z < 20000 ∧ ¬ z = 20033 ∧ 2 ≤ t ∧ q_enc z < -3 ∧ ¬ q_enc z = -33 ∧ - q_enc z = z - 20000 ∧ q_sg (z - 20000)) := by
  rcases h with ⟨h1, h2, h3⟩ | ⟨rfl, h⟩ | ⟨h, h2⟩
  · by_cases h4 : z < 10000
    · left
      refine ⟨Int32.lt_trans h4 (by decide), h4, by unfold q_enc; rw [if_pos h4], Int32.not_lt.mpr (Int32.le_trans (by decide) h1), Int32.not_lt.mpr h1, h3⟩
    · right; left
      refine ⟨h3, ?_⟩
      have hle : z ≤ 10002 := by
        rw [fa_le]
        have e2 := (fa_lt _ _).mp h2
        have a1 : (10003 : Int32).toInt = 10003 := by decide
        have a2 : (10002 : Int32).toInt = 10002 := by decide
        omega
      obtain ⟨j, hj, rfl⟩ := q_rng (n := 10002) (K := 10002) (by decide) ⟨h1, hle⟩
      have h5 := (fa_le _ _).mp (Int32.not_lt.mp h4)
      rw [nI_toInt (by omega), show (10000 : Int32).toInt = 10000 by decide] at h5
      rcases (show j = 10000 ∨ j = 10001 ∨ j = 10002 by omega) with rfl | rfl | rfl
      · exact Or.inl rfl
      · exact Or.inr (Or.inl rfl)
      · exact Or.inr (Or.inr rfl)
  · exact Or.inr (Or.inr (Or.inl ⟨rfl, h⟩))
  · right; right; right
    unfold q_sg
    rcases h with rfl | rfl | rfl | rfl | rfl | rfl | rfl | rfl | rfl | rfl <;> exact ⟨by decide, by decide, h2, by decide, by decide, by decide, by decide⟩
set_option maxHeartbeats 2000000 in
theorem t_workedOut {d : Nat} {R : gR} {μ : gM} {o n : Nat} {a b c : Int32} {code : Nat → Int32} (O : q_W o) (hn : μ (o + 1) 1 = nI n) (hpos : 0 < n) (hwf : q_wf code n) (henc : ∀ j, j < n → μ (o + 2) j = q_enc (code j)) : gc_S (d + 2) 11 [.ref o, .int a, .int b, .int c] μ R ↔ R (some (.int ((q_ev (q_n3 a b c) code (μ (o + 3)) n).2 0))) (gc_ob μ (o + 3) (q_ev (q_n3 a b c) code (μ (o + 3)) n).2) := by
  obtain ⟨h50, htk, hone⟩ := hwf
  unfold q_W at O
  simp only [s11, u11_0, u11_1, u11_3, u11_4, u11_8, u11_9, u11_12, u11_15, u11_18, u11_19, u11_22, u11_25, u11_27, u11_28, u11_30, u11_32, u11_34, u11_37, u11_40, u11_41, u11_44, u11_46, u11_48, u11_51, u11_53, u11_56, u11_58, u11_59, u11_62, u11_63, u11_66, u11_68, u11_70, u11_73, u11_74, u11_77, u11_78, u11_79, u11_82, u11_84, u11_86, u11_89, u11_90, u11_93, u11_95, u11_96, u11_99, u11_101, u11_102, u11_105, u11_106, u11_109, u11_110, u11_111, u11_114, u11_117, u11_118, u11_121, u11_123, u11_125, u11_126, u11_127, u11_130, u11_132, u11_133, u11_134, u11_137, u11_139, u11_140, u11_141, u11_142, u11_145, u11_146, u11_149, u11_152, u11_154, u11_157, u11_158, u11_161, u11_162, u11_165, u11_167, u11_168, Option.toList, List.cons_append, List.nil_append, q_ski, q_skr, q_sku, if_true, if_false]
  have m1 : ∀ P j, gc_ob μ (o + 3) P (o + 1) j = μ (o + 1) j := fun P j => by rw [q_ob_n (by omega)]
  have m2 : ∀ P, gc_ob μ (o + 3) P (o + 2) = μ (o + 2) := fun P => q_ob_n (by omega)
  refine q_loop0 (X := fun i => gc_W (gc_S (d+1)) cX2_workedOut 2 0 R 6 [.ref o, .int a, .int b, .int c, .int (nI (q_dp code i) - 1), .int (nI i), q_l5 i (q_enc (code (i - 1)))] [] (gc_ob μ (o + 3) (q_ev (q_n3 a b c) code (μ (o + 3)) i).2)) n ?_ (fun i hi => (u11_6).trans ?_) ?_
  · show _ ↔ gc_W (gc_S (d+1)) cX2_workedOut 2 0 R 6 [.ref o, .int a, .int b, .int c, .int (nI 0 - 1), .int (nI 0), .retAddr 0] [] (gc_ob μ (o + 3) (μ (o + 3)))
    rw [q_ob_s, show nI 0 - 1 = -1 by decide]
    exact Iff.rfl
  · have hdp := q_ev_dp (nm := q_n3 a b c) (s0 := μ (o + 3)) i (fun m hm => htk m (by omega))
    have hdl := q_dp_le (code := code) i
    have hz := htk i hi
    have hl : ¬ nI n ≤ nI i := q_nle hi (by omega) rfl
    have vi : vp_in (nI i) 50 := vp_in_nI (by omega) (by decide)
    have ci : (nI i).toNatClampNeg = i := nI_clamp (by omega)
    have he := henc i hi
    have hq : (q_ev (q_n3 a b c) code (μ (o + 3)) (i + 1)) = q_st (q_n3 a b c) (code i) (q_ev (q_n3 a b c) code (μ (o + 3)) i) := rfl
    have hd1 : q_dp code (i + 1) = if code i < 20000 then q_dp code i + 1 else if code i = 20033 then q_dp code i else q_dp code i - 1 := rfl
    have hl5 : q_l5 (i + 1) (q_enc (code (i + 1 - 1))) = .int (q_enc (code i)) := rfl
    rw [hq, hd1, hl5]
    have hl6 : gc_sk (q_l5 i (q_enc (code (i - 1)))) = true := q_skl
    generalize q_l5 i (q_enc (code (i - 1))) = l6 at hl6 ⊢
    generalize q_ev (q_n3 a b c) code (μ (o + 3)) i = E at *
    generalize q_dp code i = t at *
    generalize code i = z at *
    obtain ⟨t', P⟩ := E
    subst hdp
    rcases q_tk_cl hz with ⟨h1, h2, h3, h4, h5, h6⟩ | ⟨h6, hh⟩ | ⟨hh, h6⟩ | ⟨h1, h2, h6, h3, h4, h5, h7⟩
    · have vt : vp_in (nI t') 50 := vp_in_nI (by omega) (by decide)
      have ct : (nI t').toNatClampNeg = t' := nI_clamp (by omega)
      simp only [u11_0, u11_1, u11_3, u11_4, u11_8, u11_9, u11_12, u11_15, u11_18, u11_19, u11_22, u11_25, u11_27, u11_28, u11_30, u11_32, u11_34, u11_37, u11_40, u11_41, u11_44, u11_46, u11_48, u11_51, u11_53, u11_56, u11_58, u11_59, u11_62, u11_63, u11_66, u11_68, u11_70, u11_73, u11_74, u11_77, u11_78, u11_79, u11_82, u11_84, u11_86, u11_89, u11_90, u11_93, u11_95, u11_96, u11_99, u11_101, u11_102, u11_105, u11_106, u11_109, u11_110, u11_111, u11_114, u11_117, u11_118, u11_121, u11_123, u11_125, u11_126, u11_127, u11_130, u11_132, u11_133, u11_134, u11_137, u11_139, u11_140, u11_141, u11_142, u11_145, u11_146, u11_149, u11_152, u11_154, u11_157, u11_158, u11_161, u11_162, u11_165, u11_167, u11_168, Option.toList, List.cons_append, List.nil_append, q_ski, q_skr, q_sku, if_true, if_false, O, hn, hl, m1, m2, vi, ci, he, hl6, h1, h2, h3, h4, h5, Int32.sub_add_cancel, vt, ct, q_ob_e, q_ob_u, q_st, nI_pred, nI_1, true_and]
    · have vt : vp_in (nI t') 50 := vp_in_nI (by omega) (by decide)
      have ct : (nI t').toNatClampNeg = t' := nI_clamp (by omega)
      rcases hh with rfl | rfl | rfl
      · simp only [u11_0, u11_1, u11_3, u11_4, u11_8, u11_9, u11_12, u11_15, u11_18, u11_19, u11_22, u11_25, u11_27, u11_28, u11_30, u11_32, u11_34, u11_37, u11_40, u11_41, u11_44, u11_46, u11_48, u11_51, u11_53, u11_56, u11_58, u11_59, u11_62, u11_63, u11_66, u11_68, u11_70, u11_73, u11_74, u11_77, u11_78, u11_79, u11_82, u11_84, u11_86, u11_89, u11_90, u11_93, u11_95, u11_96, u11_99, u11_101, u11_102, u11_105, u11_106, u11_109, u11_110, u11_111, u11_114, u11_117, u11_118, u11_121, u11_123, u11_125, u11_126, u11_127, u11_130, u11_132, u11_133, u11_134, u11_137, u11_139, u11_140, u11_141, u11_142, u11_145, u11_146, u11_149, u11_152, u11_154, u11_157, u11_158, u11_161, u11_162, u11_165, u11_167, u11_168, Option.toList, List.cons_append, List.nil_append, q_ski, q_skr, q_sku, if_true, if_false, O, hn, hl, m1, m2, vi, ci, he, hl6, show q_enc 10000 = -1 by decide, show ¬ (-1 : Int32) < -3 by decide, show (-1 : Int32) < 0 by decide, show (10000 : Int32) < 20000 by decide, show ¬ (10000 : Int32) < 10000 by decide, show q_n3 a b c ((10000 : Int32) - 10000).toNatClampNeg = a from rfl, Int32.sub_add_cancel, vt, ct, q_ob_e, q_ob_u, q_st, nI_pred, nI_1, true_and]
      · simp only [u11_0, u11_1, u11_3, u11_4, u11_8, u11_9, u11_12, u11_15, u11_18, u11_19, u11_22, u11_25, u11_27, u11_28, u11_30, u11_32, u11_34, u11_37, u11_40, u11_41, u11_44, u11_46, u11_48, u11_51, u11_53, u11_56, u11_58, u11_59, u11_62, u11_63, u11_66, u11_68, u11_70, u11_73, u11_74, u11_77, u11_78, u11_79, u11_82, u11_84, u11_86, u11_89, u11_90, u11_93, u11_95, u11_96, u11_99, u11_101, u11_102, u11_105, u11_106, u11_109, u11_110, u11_111, u11_114, u11_117, u11_118, u11_121, u11_123, u11_125, u11_126, u11_127, u11_130, u11_132, u11_133, u11_134, u11_137, u11_139, u11_140, u11_141, u11_142, u11_145, u11_146, u11_149, u11_152, u11_154, u11_157, u11_158, u11_161, u11_162, u11_165, u11_167, u11_168, Option.toList, List.cons_append, List.nil_append, q_ski, q_skr, q_sku, if_true, if_false, O, hn, hl, m1, m2, vi, ci, he, hl6, show q_enc 10001 = -2 by decide, show ¬ (-2 : Int32) < -3 by decide, show (-2 : Int32) < 0 by decide, show ¬ (-2 : Int32) = -1 by decide, show (10001 : Int32) < 20000 by decide, show ¬ (10001 : Int32) < 10000 by decide, show q_n3 a b c ((10001 : Int32) - 10000).toNatClampNeg = b from rfl, Int32.sub_add_cancel, vt, ct, q_ob_e, q_ob_u, q_st, nI_pred, nI_1, true_and]
      · simp only [u11_0, u11_1, u11_3, u11_4, u11_8, u11_9, u11_12, u11_15, u11_18, u11_19, u11_22, u11_25, u11_27, u11_28, u11_30, u11_32, u11_34, u11_37, u11_40, u11_41, u11_44, u11_46, u11_48, u11_51, u11_53, u11_56, u11_58, u11_59, u11_62, u11_63, u11_66, u11_68, u11_70, u11_73, u11_74, u11_77, u11_78, u11_79, u11_82, u11_84, u11_86, u11_89, u11_90, u11_93, u11_95, u11_96, u11_99, u11_101, u11_102, u11_105, u11_106, u11_109, u11_110, u11_111, u11_114, u11_117, u11_118, u11_121, u11_123, u11_125, u11_126, u11_127, u11_130, u11_132, u11_133, u11_134, u11_137, u11_139, u11_140, u11_141, u11_142, u11_145, u11_146, u11_149, u11_152, u11_154, u11_157, u11_158, u11_161, u11_162, u11_165, u11_167, u11_168, Option.toList, List.cons_append, List.nil_append, q_ski, q_skr, q_sku, if_true, if_false, O, hn, hl, m1, m2, vi, ci, he, hl6, show q_enc 10002 = -3 by decide, show ¬ (-3 : Int32) < -3 by decide, show (-3 : Int32) < 0 by decide, show ¬ (-3 : Int32) = -1 by decide, show ¬ (-3 : Int32) = -2 by decide, show (10002 : Int32) < 20000 by decide, show ¬ (10002 : Int32) < 10000 by decide, show q_n3 a b c ((10002 : Int32) - 10000).toNatClampNeg = c from rfl, Int32.sub_add_cancel, vt, ct, q_ob_e, q_ob_u, q_st, nI_pred, nI_1, true_and]
    · subst hh
      obtain ⟨s, rfl⟩ : ∃ s, t' = s + 1 := ⟨t' - 1, by omega⟩
      have vt : vp_in (nI s) 50 := vp_in_nI (by omega) (by decide)
      have ct : (nI s).toNatClampNeg = s := nI_clamp (by omega)
      by_cases h5 : P s = 0
      · simp only [u11_0, u11_1, u11_3, u11_4, u11_8, u11_9, u11_12, u11_15, u11_18, u11_19, u11_22, u11_25, u11_27, u11_28, u11_30, u11_32, u11_34, u11_37, u11_40, u11_41, u11_44, u11_46, u11_48, u11_51, u11_53, u11_56, u11_58, u11_59, u11_62, u11_63, u11_66, u11_68, u11_70, u11_73, u11_74, u11_77, u11_78, u11_79, u11_82, u11_84, u11_86, u11_89, u11_90, u11_93, u11_95, u11_96, u11_99, u11_101, u11_102, u11_105, u11_106, u11_109, u11_110, u11_111, u11_114, u11_117, u11_118, u11_121, u11_123, u11_125, u11_126, u11_127, u11_130, u11_132, u11_133, u11_134, u11_137, u11_139, u11_140, u11_141, u11_142, u11_145, u11_146, u11_149, u11_152, u11_154, u11_157, u11_158, u11_161, u11_162, u11_165, u11_167, u11_168, Option.toList, List.cons_append, List.nil_append, q_ski, q_skr, q_sku, if_true, if_false, O, hn, hl, m1, m2, vi, ci, he, hl6, show q_enc 20033 = -33 by decide, show (-33 : Int32) < -3 by decide, show ¬ (20033 : Int32) < 20000 by decide, vt, ct, q_ob_e, q_ob_u, q_st, nI_pred, nI_1, true_and, Nat.add_sub_cancel, h5]
      · simp only [u11_0, u11_1, u11_3, u11_4, u11_8, u11_9, u11_12, u11_15, u11_18, u11_19, u11_22, u11_25, u11_27, u11_28, u11_30, u11_32, u11_34, u11_37, u11_40, u11_41, u11_44, u11_46, u11_48, u11_51, u11_53, u11_56, u11_58, u11_59, u11_62, u11_63, u11_66, u11_68, u11_70, u11_73, u11_74, u11_77, u11_78, u11_79, u11_82, u11_84, u11_86, u11_89, u11_90, u11_93, u11_95, u11_96, u11_99, u11_101, u11_102, u11_105, u11_106, u11_109, u11_110, u11_111, u11_114, u11_117, u11_118, u11_121, u11_123, u11_125, u11_126, u11_127, u11_130, u11_132, u11_133, u11_134, u11_137, u11_139, u11_140, u11_141, u11_142, u11_145, u11_146, u11_149, u11_152, u11_154, u11_157, u11_158, u11_161, u11_162, u11_165, u11_167, u11_168, Option.toList, List.cons_append, List.nil_append, q_ski, q_skr, q_sku, if_true, if_false, O, hn, hl, m1, m2, vi, ci, he, hl6, show q_enc 20033 = -33 by decide, show (-33 : Int32) < -3 by decide, show ¬ (20033 : Int32) < 20000 by decide, vt, ct, q_ob_e, q_ob_u, q_st, nI_pred, nI_1, true_and, Nat.add_sub_cancel, h5]
    · obtain ⟨s, rfl⟩ : ∃ s, t' = s + 2 := ⟨t' - 2, by omega⟩
      have vt : vp_in (nI s) 50 := vp_in_nI (by omega) (by decide)
      have ct : (nI s).toNatClampNeg = s := nI_clamp (by omega)
      have vt2 : vp_in (nI (s + 1)) 50 := vp_in_nI (by omega) (by decide)
      have ct2 : (nI (s + 1)).toNatClampNeg = s + 1 := nI_clamp (by omega)
      have e1 : nI (s + 2) - 1 = nI (s + 1) := nI_pred (s + 1)
      have e2 : s + 2 - 1 = s + 1 := by omega
      have e3 : s + 2 - 2 = s := by omega
      simp only [u11_0, u11_1, u11_3, u11_4, u11_8, u11_9, u11_12, u11_15, u11_18, u11_19, u11_22, u11_25, u11_27, u11_28, u11_30, u11_32, u11_34, u11_37, u11_40, u11_41, u11_44, u11_46, u11_48, u11_51, u11_53, u11_56, u11_58, u11_59, u11_62, u11_63, u11_66, u11_68, u11_70, u11_73, u11_74, u11_77, u11_78, u11_79, u11_82, u11_84, u11_86, u11_89, u11_90, u11_93, u11_95, u11_96, u11_99, u11_101, u11_102, u11_105, u11_106, u11_109, u11_110, u11_111, u11_114, u11_117, u11_118, u11_121, u11_123, u11_125, u11_126, u11_127, u11_130, u11_132, u11_133, u11_134, u11_137, u11_139, u11_140, u11_141, u11_142, u11_145, u11_146, u11_149, u11_152, u11_154, u11_157, u11_158, u11_161, u11_162, u11_165, u11_167, u11_168, Option.toList, List.cons_append, List.nil_append, q_ski, q_skr, q_sku, if_true, if_false, O, hn, hl, m1, m2, vi, ci, he, hl6, h1, h2, h3, h4, h5, t_joined h7, e1, e2, e3, pk_m1, vt, ct, vt2, ct2, q_ob_e, q_ob_u, q_st, nI_pred, nI_1, true_and]
  · have e1 : q_dp code n = 1 := hone hpos
    have v0 : vp_in (nI 0) 50 := vp_in_nI (by omega) (by decide)
    have c0 : (nI 0).toNatClampNeg = 0 := nI_clamp (by omega)
    refine (u11_6).trans ?_
    rw [e1]
    simp only [u11_0, u11_1, u11_3, u11_4, u11_8, u11_9, u11_12, u11_15, u11_18, u11_19, u11_22, u11_25, u11_27, u11_28, u11_30, u11_32, u11_34, u11_37, u11_40, u11_41, u11_44, u11_46, u11_48, u11_51, u11_53, u11_56, u11_58, u11_59, u11_62, u11_63, u11_66, u11_68, u11_70, u11_73, u11_74, u11_77, u11_78, u11_79, u11_82, u11_84, u11_86, u11_89, u11_90, u11_93, u11_95, u11_96, u11_99, u11_101, u11_102, u11_105, u11_106, u11_109, u11_110, u11_111, u11_114, u11_117, u11_118, u11_121, u11_123, u11_125, u11_126, u11_127, u11_130, u11_132, u11_133, u11_134, u11_137, u11_139, u11_140, u11_141, u11_142, u11_145, u11_146, u11_149, u11_152, u11_154, u11_157, u11_158, u11_161, u11_162, u11_165, u11_167, u11_168, Option.toList, List.cons_append, List.nil_append, q_ski, q_skr, q_sku, if_true, if_false, O, hn, m1, show nI n ≤ nI n from Int32.le_refl _, show nI 1 - 1 = nI 0 from rfl, show 0 ≤ nI 0 by decide, v0, c0, q_ob_e, true_and]
