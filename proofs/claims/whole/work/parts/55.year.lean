theorem q_ok_of {D D' : Nat → Int32} (hok : q_ok D) (hw : ∀ c, c < 16 → (∃ x, D' (5 + c) = q_hd x) ∨ D' (5 + c) = D (5 + c)) (hs : ∀ i, i < 8 → (∃ x, D' (45 + 4 * i) = q_hd x) ∨ D' (45 + 4 * i) = D (45 + 4 * i)) (ho : ∀ j, (j < 5 ∨ 21 ≤ j) → (∀ i, i < 8 → j ≠ 45 + 4 * i) → D' j = D j) : q_ok D' := by
  obtain ⟨⟨n, hn, hn8⟩, ⟨y, hy, hy2⟩, hwet, htorn, hlist, hm, hwf⟩ := hok
  refine ⟨⟨n, ?_, hn8⟩, ⟨y, ?_, hy2⟩, fun c hc => ?_, fun c hc => ?_, fun p hp => ?_, fun i hi => ?_, fun u hu => ?_⟩
  · rw [ho _ (by omega) (by omega), hn]
  · rw [ho _ (by omega) (by omega), hy]
  · rcases hw c hc with ⟨x, hx⟩ | hx
    · rw [hx]; exact q_hd_r x
    · rw [hx]; exact hwet c hc
  · rw [ho _ (by omega) (by omega)]; exact htorn c hc
  · rw [ho _ (by omega) (by omega)]; exact hlist p hp
  · obtain ⟨k1, k2, k3, k4⟩ := hm i hi
    refine ⟨?_, ?_, ?_, ?_⟩
    · rw [ho _ (by omega) (by omega)]; exact k1
    · rw [ho _ (by omega) (by omega)]; exact k2
    · rcases hs i hi with ⟨x, hx⟩ | hx
      · rw [hx]; exact q_hd_r x
      · rw [hx]; exact k3
    · rw [ho _ (by omega) (by omega)]; exact k4
  · obtain ⟨k, hk, hk2⟩ := hwf u hu
    refine ⟨k, by rw [ho _ (by omega) (by omega)]; exact hk, ?_⟩
    have : q_code D' u = q_code D u := funext fun j => by
      show D' (97 + 50 * u + j) = D (97 + 50 * u + j)
      rw [ho _ (by omega) (by omega)]
    rw [this]; exact hk2
theorem q_weep_w {D : Nat → Int32} {i c j : Nat} (hc : D (46 + 4 * i) = nI c) (hc2 : c < 16) (hj : j < 16) : (∃ x, q_weep D i (5 + j) = q_hd x) ∨ q_weep D i (5 + j) = D (5 + j) := by
  unfold q_weep
  rw [hc, nI_clamp (by omega)]
  unfold upd
  rw [if_neg (by omega)]
  by_cases ht : D (21 + c) = 0
  · rw [if_pos ht]
    by_cases e : 5 + j = 5 + c
    · rw [if_pos e]; exact Or.inl ⟨_, rfl⟩
    · rw [if_neg e]; exact Or.inr rfl
  · rw [if_neg ht]; exact Or.inr rfl
theorem q_ok_weep {D : Nat → Int32} (hok : q_ok D) {i : Nat} (hi : i < 8) : q_ok (q_weep D i) := by
  have hok' := hok
  obtain ⟨-, -, -, -, -, hm, -⟩ := hok
  obtain ⟨-, -, -, c, hcv, hc⟩ := hm i hi
  refine q_ok_of hok' (fun j hj => q_weep_w hcv (by omega) hj) (fun j hj => ?_) (fun j h1 h2 => q_weep_at hcv (by omega) h1 (h2 i hi))
  by_cases e : j = i
  · subst e; exact Or.inl q_weep_s
  · exact Or.inr (q_weep_at hcv (by omega) (by omega) (by omega))
theorem q_seep_o {D : Nat → Int32} {j : Nat} (h : j < 5 ∨ 21 ≤ j) : q_seep D j = D j := by unfold q_seep; rw [if_neg (by omega)]
theorem q_seep_i {D : Nat → Int32} {c : Nat} (h : c < 16) : q_seep D (5 + c) = q_hd (D (5 + c) + q_chg D c) := by unfold q_seep; rw [if_pos (by omega), show 5 + c - 5 = c by omega]
theorem q_ok_seep {D : Nat → Int32} (hok : q_ok D) : q_ok (q_seep D) := q_ok_of hok (fun j hj => Or.inl ⟨_, q_seep_i hj⟩) (fun j _ => Or.inr (q_seep_o (by omega))) (fun j h1 _ => q_seep_o h1)
theorem q_ok_dry {D : Nat → Int32} (hok : q_ok D) : q_ok (q_dry D) := q_ok_of hok (fun j hj => Or.inl ⟨_, q_dry_i hj⟩) (fun j _ => Or.inr (q_dry_o (by omega))) (fun j h1 _ => q_dry_o h1)
theorem t_seepR {d : Nat} {R : gR} {μ : gM} {k : Nat} {D : Nat → Int32} (K : q_K k 9) (hok : q_ok D) (hR : q_R k D μ) (h : ∀ μ', q_g k μ μ' → μ' k = μ k → q_R k (q_seep D) μ' → R none μ') : gc_S (d + 2) 27 [.ref k] μ R := by
  rw [t_seep K]
  obtain ⟨h1, h2, h3, h4, h5, h6, h7, h8, h9⟩ := hR
  have ew : ∀ c, c < 16 → va_cpy (μ (k + 1)) (μ (k + 2)) 0 0 16 c = D (5 + c) := fun c hc => by
    rw [pk_cpy_in (by omega) (by omega), show 0 + (c - 0) = c by omega]; exact h1 c hc
  have e1 : ∀ o, o ≠ k + 1 → o ≠ k + 2 → gc_ob (gc_cp μ (k + 1) (k + 2) 0 0 16) (k + 1) (q_sq (μ k 11) (va_cpy (μ (k + 1)) (μ (k + 2)) 0 0 16) (μ (k + 1)) 16) o = μ o := fun o a b => by rw [q_ob_n a, gc_cp_ne b]
  have e2 : ∀ c, c < 16 → gc_ob (gc_cp μ (k + 1) (k + 2) 0 0 16) (k + 1) (q_sq (μ k 11) (va_cpy (μ (k + 1)) (μ (k + 2)) 0 0 16) (μ (k + 1)) 16) (k + 1) c = q_seep D (5 + c) := fun c hc => by
    rw [q_ob_e, q_sq_at, q_sqc_chg hok h7 ew hc, h1 c hc, q_seep_i hc, q_chg_hd hok hc]
  generalize gc_ob (gc_cp μ (k + 1) (k + 2) 0 0 16) (k + 1) (q_sq (μ k 11) (va_cpy (μ (k + 1)) (μ (k + 2)) 0 0 16) (μ (k + 1)) 16) = μ1 at e1 e2 ⊢
  refine h _ (fun o a b c => e1 o (by omega) (by omega)) (e1 k (by omega) (by omega)) ⟨e2, fun j hj => ?_, fun j hj => ?_, fun j hj => ?_, fun j hj => ?_, fun j hj => ?_, ?_, ?_, ?_⟩
  · rw [e1 _ (by omega) (by omega), q_seep_o (by omega)]; exact h2 j hj
  · rw [e1 _ (by omega) (by omega), q_seep_o (by omega)]; exact h3 j hj
  · rw [e1 _ (by omega) (by omega), q_seep_o (by omega)]; exact h4 j hj
  · rw [e1 _ (by omega) (by omega), q_seep_o (by omega)]; exact h5 j hj
  · rw [e1 _ (by omega) (by omega), q_seep_o (by omega)]; exact h6 j hj
  · rw [e1 _ (by omega) (by omega), h7]; exact q_set_cong (fun j hj => by rw [q_seep_o (by omega)])
  · rw [e1 _ (by omega) (by omega), q_seep_o (by omega)]; exact h8
  · rw [e1 _ (by omega) (by omega), q_seep_o (by omega)]; exact h9
theorem q_gs_gri {D kd m s : Nat → Int32} (h1 : ∀ i, i < 8 → kd i = D (43 + 4 * i)) (h2 : ∀ i, i < 8 → m i = D (44 + 4 * i)) (h3 : ∀ i, i < 8 → s i = D (45 + 4 * i)) : ∀ n, n ≤ 8 → ∀ i, i < 8 → q_gs kd m s (D 1) n i = q_gri D n (45 + 4 * i)
  | 0, _, i, hi => h3 i hi
  | n + 1, hn, i, hi => by
    have ih := q_gs_gri h1 h2 h3 n (by omega)
    show upd (q_gs kd m s (D 1) n) n (q_hd (q_gs kd m s (D 1) n n + q_gr (kd n) (m n) (D 1))) i = upd (q_gri D n) (45 + 4 * n) (q_hd (D (45 + 4 * n) + q_gr (D (43 + 4 * n)) (D (44 + 4 * n)) (D 1))) (45 + 4 * i)
    unfold upd
    by_cases e : i = n
    · subst e
      rw [if_pos rfl, if_pos rfl, ih i hi, h1 i hi, h2 i hi, q_gri_o i (fun j hj => by omega)]
    · rw [if_neg e, if_neg (by omega), ih i hi]
theorem t_grieveR {d : Nat} {R : gR} {μ : gM} {k : Nat} {D : Nat → Int32} (K : q_K k 9) (hok : q_ok D) (hR : q_R k D μ) (h : ∀ μ', q_g k μ μ' → μ' k = μ k → q_R k (q_gri D (D 0).toNatClampNeg) μ' → R none μ') : gc_S (d + 3) 37 [.ref k] μ R := by
  obtain ⟨h1, h2, h3, h4, h5, h6, h7, h8, h9⟩ := hR
  obtain ⟨⟨n, hn, hn8⟩, -, -, -, -, hm, -⟩ := hok
  rw [t_grieve K (n := n) (by rw [h9, hn]) hn8 (fun i hi => by obtain ⟨⟨w, hw, hw6⟩, -⟩ := hm i hi; exact ⟨w, by rw [h3 i hi, hw], hw6⟩)]
  rw [h8]
  have e1 : ∀ o, o ≠ k + 6 → gc_ob μ (k + 6) (q_gs (μ (k + 4)) (μ (k + 5)) (μ (k + 6)) (D 1) n) o = μ o := fun o a => q_ob_n a
  have e2 : ∀ i, i < 8 → gc_ob μ (k + 6) (q_gs (μ (k + 4)) (μ (k + 5)) (μ (k + 6)) (D 1) n) (k + 6) i = q_gri D n (45 + 4 * i) := fun i hi => by rw [q_ob_e, q_gs_gri h3 h4 h5 n hn8 i hi]
  rw [hn, nI_clamp (by omega)] at h
  have go : ∀ j, (∀ i, i < 8 → j ≠ 45 + 4 * i) → q_gri D n j = D j := fun j hj => q_gri_o n (fun i hi => hj i (by omega))
  refine h _ (fun o a b c => e1 o (by omega)) (e1 k (by omega)) ⟨fun j hj => ?_, fun j hj => ?_, fun j hj => ?_, fun j hj => ?_, e2, fun j hj => ?_, ?_, ?_, ?_⟩
  · rw [e1 _ (by omega), go _ (by omega)]; exact h1 j hj
  · rw [e1 _ (by omega), go _ (by omega)]; exact h2 j hj
  · rw [e1 _ (by omega), go _ (by omega)]; exact h3 j hj
  · rw [e1 _ (by omega), go _ (by omega)]; exact h4 j hj
  · rw [e1 _ (by omega), go _ (by omega)]; exact h6 j hj
  · rw [e1 _ (by omega), h7]; exact q_set_cong (fun j hj => by rw [go _ (by omega)])
  · rw [e1 _ (by omega), go _ (by omega)]; exact h8
  · rw [e1 _ (by omega), go _ (by omega)]; exact h9
theorem t_eases {d : Nat} {R : gR} {μ : gM} {L : List Value} {k i w : Nat} {m p s : Int32} (hw6 : w ≤ 6) (h : gc_W (gc_S (d + 3)) cX0_passYear 0 2 R 88 L [.int (q_es (nI w) m p), .int s, .int (nI i), .ref (k + 6)] μ) : gc_W (gc_S (d + 3)) cX0_passYear 0 2 R 85 L [.int p, .int m, .ref (2 + 1 * w), .int s, .int (nI i), .ref (k + 6)] μ := by
  have r : w = 0 ∨ w = 1 ∨ w = 2 ∨ w = 3 ∨ w = 4 ∨ w = 5 ∨ w = 6 := by omega
  rcases r with r | r | r | r | r | r | r
  all_goals subst r
  · refine (u38_85_5 rfl).mpr (t_e5.mpr ?_); exact h
  · refine (u38_85_10 rfl).mpr (t_e5.mpr ?_); exact h
  · refine (u38_85_8 rfl).mpr ((t_e8 (kd := 8) rfl rfl).mpr ?_); exact h
  · refine (u38_85_3 rfl).mpr (t_e5.mpr ?_); exact h
  · refine (u38_85_6 rfl).mpr (t_e6.mpr ?_); exact h
  · refine (u38_85_4 rfl).mpr ((t_e8 (kd := 4) rfl rfl).mpr ?_); exact h
  · refine (u38_85_1 rfl).mpr ((t_e1 (kd := 1) rfl rfl).mpr ?_); exact h
set_option maxHeartbeats 1000000 in
theorem t_passYear {d : Nat} {R : gR} {μ : gM} {k : Nat} {D : Nat → Int32} (K : q_K k 9) (hk : 18 < k) (hok : q_ok D) (hR : q_R k D μ) (hL : q_L D μ) (h : ∀ μ', q_g k μ μ' → μ' k 14 = μ k 14 → q_R k (q_yr D) μ' → R none μ') : gc_S (d + 5) 38 [.ref k] μ R := by
  have K' := K
  have hR' := hR
  have hok' := hok
  unfold q_K at K
  obtain ⟨h1, h2, h3, h4, h5, h6, h7, h8, h9⟩ := hR
  obtain ⟨⟨n, hn, hn8⟩, ⟨y, hy, hy2⟩, hwet, htorn, hlist, hm, hwf⟩ := hok
  have hmod : D 1 - D 1 / 6 * 6 = nI (y % 6) := by rw [hy, show (6 : Int32) = nI 6 from rfl, pk_rem (by omega) (by decide) (by decide)]
  have hm6 : y % 6 < 6 := Nat.mod_lt _ (by decide)
  obtain ⟨w, hw, hw7⟩ := hlist (y % 6) hm6
  have hwho : q_who D = nI w := by unfold q_who; rw [hmod, nI_clamp (by omega), hw]
  have v6 : vp_in (nI (y % 6)) 6 := vp_in_nI hm6 (by decide)
  have c6 : (nI (y % 6)).toNatClampNeg = y % 6 := nI_clamp (by omega)
  have epl : μ (k + 3) (y % 6) = nI w := by rw [h2 _ hm6, hw]
  have tail : ∀ D1, D1 = (if 0 ≤ q_who D ∧ q_who D ≤ D 0 - 1 then q_weep D (q_who D).toNatClampNeg else D) → q_ok D1 → D1 0 = D 0 → (∀ j, 75 ≤ j → D1 j = D j) → ∀ μ1, q_g k μ μ1 → μ1 k = μ k → q_R k D1 μ1 → ∀ l1 l2 l3, gc_W (gc_S (d+4)) cX0_passYear 0 2 R 93 [.ref k, l1, l2, l3] [] μ1 := by
    intro D1 e1 ok1 e0 e75 μ1 g1 gk1 R1 l1 l2 l3
    simp only [u38_0, u38_1, u38_4, u38_5, u38_8, u38_10, u38_11, u38_12, u38_13, u38_14, u38_15, u38_18, u38_21, u38_22, u38_23, u38_26, u38_27, u38_28, u38_31, u38_32, u38_33, u38_34, u38_35, u38_38, u38_39, u38_40, u38_41, u38_42, u38_45, u38_46, u38_49, u38_50, u38_51, u38_54, u38_55, u38_56, u38_57, u38_58, u38_61, u38_62, u38_63, u38_66, u38_67, u38_68, u38_71, u38_72, u38_73, u38_74, u38_75, u38_78, u38_79, u38_82, u38_83, u38_84, u38_85_1, u38_85_3, u38_85_4, u38_85_5, u38_85_6, u38_85_8, u38_85_10, u38_88, u38_89, u38_92, u38_93, u38_94, u38_97, u38_98, u38_101, u38_102, u38_105, u38_106, u38_107, u38_110, u38_111, u38_112, u38_115, ly_kd, ly_al, ly_fv0, ly_fv1, ly_fv2, ly_fv3, ly_fv4, ly_fk, ly_ra, Option.toList, List.cons_append, List.nil_append, q_ski, q_skr, q_sku, if_true, if_false, K]
    refine t_seepR K' ok1 R1 (fun μ2 g2 gk2 R2 => ?_)
    simp only [u38_0, u38_1, u38_4, u38_5, u38_8, u38_10, u38_11, u38_12, u38_13, u38_14, u38_15, u38_18, u38_21, u38_22, u38_23, u38_26, u38_27, u38_28, u38_31, u38_32, u38_33, u38_34, u38_35, u38_38, u38_39, u38_40, u38_41, u38_42, u38_45, u38_46, u38_49, u38_50, u38_51, u38_54, u38_55, u38_56, u38_57, u38_58, u38_61, u38_62, u38_63, u38_66, u38_67, u38_68, u38_71, u38_72, u38_73, u38_74, u38_75, u38_78, u38_79, u38_82, u38_83, u38_84, u38_85_1, u38_85_3, u38_85_4, u38_85_5, u38_85_6, u38_85_8, u38_85_10, u38_88, u38_89, u38_92, u38_93, u38_94, u38_97, u38_98, u38_101, u38_102, u38_105, u38_106, u38_107, u38_110, u38_111, u38_112, u38_115, ly_kd, ly_al, ly_fv0, ly_fv1, ly_fv2, ly_fv3, ly_fv4, ly_fk, ly_ra, Option.toList, List.cons_append, List.nil_append, q_ski, q_skr, q_sku, if_true, if_false, K]
    refine t_dryOut K' hk (q_ok_seep ok1) R2 (q_L_g (q_L_g (q_L_D hL (fun j hj => by rw [q_seep_o (by omega)]; exact e75 j hj)) hk g1) hk g2) (fun μ3 g3 gk3 R3 => ?_)
    simp only [u38_0, u38_1, u38_4, u38_5, u38_8, u38_10, u38_11, u38_12, u38_13, u38_14, u38_15, u38_18, u38_21, u38_22, u38_23, u38_26, u38_27, u38_28, u38_31, u38_32, u38_33, u38_34, u38_35, u38_38, u38_39, u38_40, u38_41, u38_42, u38_45, u38_46, u38_49, u38_50, u38_51, u38_54, u38_55, u38_56, u38_57, u38_58, u38_61, u38_62, u38_63, u38_66, u38_67, u38_68, u38_71, u38_72, u38_73, u38_74, u38_75, u38_78, u38_79, u38_82, u38_83, u38_84, u38_85_1, u38_85_3, u38_85_4, u38_85_5, u38_85_6, u38_85_8, u38_85_10, u38_88, u38_89, u38_92, u38_93, u38_94, u38_97, u38_98, u38_101, u38_102, u38_105, u38_106, u38_107, u38_110, u38_111, u38_112, u38_115, ly_kd, ly_al, ly_fv0, ly_fv1, ly_fv2, ly_fv3, ly_fv4, ly_fk, ly_ra, Option.toList, List.cons_append, List.nil_append, q_ski, q_skr, q_sku, if_true, if_false, K]
    refine t_grieveR K' (q_ok_dry (q_ok_seep ok1)) R3 (fun μ4 g4 gk4 R4 => ?_)
    simp only [u38_0, u38_1, u38_4, u38_5, u38_8, u38_10, u38_11, u38_12, u38_13, u38_14, u38_15, u38_18, u38_21, u38_22, u38_23, u38_26, u38_27, u38_28, u38_31, u38_32, u38_33, u38_34, u38_35, u38_38, u38_39, u38_40, u38_41, u38_42, u38_45, u38_46, u38_49, u38_50, u38_51, u38_54, u38_55, u38_56, u38_57, u38_58, u38_61, u38_62, u38_63, u38_66, u38_67, u38_68, u38_71, u38_72, u38_73, u38_74, u38_75, u38_78, u38_79, u38_82, u38_83, u38_84, u38_85_1, u38_85_3, u38_85_4, u38_85_5, u38_85_6, u38_85_8, u38_85_10, u38_88, u38_89, u38_92, u38_93, u38_94, u38_97, u38_98, u38_101, u38_102, u38_105, u38_106, u38_107, u38_110, u38_111, u38_112, u38_115, ly_kd, ly_al, ly_fv0, ly_fv1, ly_fv2, ly_fv3, ly_fv4, ly_fk, ly_ra, Option.toList, List.cons_append, List.nil_append, q_ski, q_skr, q_sku, if_true, if_false, K]
    have ed : q_dry (q_seep D1) 0 = D 0 := by rw [q_dry_o (by omega), q_seep_o (by omega), e0]
    have ey : q_yr D = upd (q_gri (q_dry (q_seep D1)) (q_dry (q_seep D1) 0).toNatClampNeg) 1 (q_gri (q_dry (q_seep D1)) (q_dry (q_seep D1) 0).toNatClampNeg 1 + 1) := by
      unfold q_yr
      rw [← e1, ed]
    have g := (g1.tr g2).tr (g3.tr g4)
    have gk : μ4 k = μ k := by rw [gk4, gk3, gk2, gk1]
    refine h _ (fun o a b c => by rw [gc_up_ne (by omega)]; exact g o a b c) (by rw [q_up_j (by omega), gk]) ?_
    rw [ey]
    have e12 := R4.2.2.2.2.2.2.2.1
    rw [← e12]
    exact q_R_y R4
  simp only [s38, u38_0, u38_1, u38_4, u38_5, u38_8, u38_10, u38_11, u38_12, u38_13, u38_14, u38_15, u38_18, u38_21, u38_22, u38_23, u38_26, u38_27, u38_28, u38_31, u38_32, u38_33, u38_34, u38_35, u38_38, u38_39, u38_40, u38_41, u38_42, u38_45, u38_46, u38_49, u38_50, u38_51, u38_54, u38_55, u38_56, u38_57, u38_58, u38_61, u38_62, u38_63, u38_66, u38_67, u38_68, u38_71, u38_72, u38_73, u38_74, u38_75, u38_78, u38_79, u38_82, u38_83, u38_84, u38_85_1, u38_85_3, u38_85_4, u38_85_5, u38_85_6, u38_85_8, u38_85_10, u38_88, u38_89, u38_92, u38_94, u38_97, u38_98, u38_101, u38_102, u38_105, u38_106, u38_107, u38_110, u38_111, u38_112, u38_115, ly_kd, ly_al, ly_fv0, ly_fv1, ly_fv2, ly_fv3, ly_fv4, ly_fk, ly_ra, Option.toList, List.cons_append, List.nil_append, q_ski, q_skr, q_sku, if_true, if_false, K, h8, hmod, show ¬ (6 : Int32) = 0 by decide, not_false_eq_true, v6, c6, epl, true_and, h9, hn]
  by_cases hlt : w < n
  · have hi : w < 8 := by omega
    obtain ⟨⟨kd, hkd, hkd6⟩, ⟨m, hmm, hm9⟩, ⟨s, hs, hs9⟩, ⟨c, hcc, hc15⟩⟩ := hm w hi
    have c16 : c < 16 := by omega
    have vw : vp_in (nI w) 8 := vp_in_nI hi (by decide)
    have cw : (nI w).toNatClampNeg = w := nI_clamp (by omega)
    have hcond : 0 ≤ q_who D ∧ q_who D ≤ D 0 - 1 := by
      rw [hwho, hn]
      obtain ⟨n', rfl⟩ : ∃ n', n = n' + 1 := ⟨n - 1, by omega⟩
      rw [nI_pred]
      exact ⟨nI_pos' (by omega), nI_le (by omega) (by omega)⟩
    have e1 : (if 0 ≤ q_who D ∧ q_who D ≤ D 0 - 1 then q_weep D (q_who D).toNatClampNeg else D) = q_weep D w := by rw [if_pos hcond, hwho, cw]
    rw [e1] at tail
    have ok1 := q_ok_weep hok' hi
    have ev : ∀ P, q_weep D w = P → True := fun _ _ => trivial
    have eat : ∀ j, (j < 5 ∨ 21 ≤ j) → j ≠ 45 + 4 * w → q_weep D w j = D j := fun j a b => q_weep_at hcc c16 a b
    simp only [show ¬ nI n ≤ nI w from fun z => absurd z (nI_ge hlt (by omega)), if_false]
    refine t_weptBy K' hi hok' hR' hL (fun μ1 hμ => ?_)
    have ewp : q_weep D w = upd (if D (21 + c) = 0 then upd D (5 + c) (q_hd (D (5 + c) + q_wept D w)) else D) (45 + 4 * w) (q_hd (D (45 + 4 * w) - q_es (D (43 + 4 * w)) (D (44 + 4 * w)) (q_wept D w))) := by
      unfold q_weep
      rw [hcc, nI_clamp (by omega)]
    have m1 : ∀ o, k ≤ o → μ1 o = μ o := fun o ho => hμ o (by omega) (by omega)
    have R1 : q_R k D μ1 := q_R_mem hR' (fun o a _ _ => m1 o a)
    have a7 : μ1 (k + 7) w = nI c := by rw [m1 _ (by omega), h6 w hi, hcc]
    have vc : vp_in (nI c) 16 := vp_in_nI c16 (by decide)
    have cc : (nI c).toNatClampNeg = c := nI_clamp (by omega)
    have a11 : μ1 k 11 = q_set (fun c => decide (D (21 + c) = 1)) 16 := by rw [m1 _ (by omega), h7]
    have abit : (q_set (fun c => decide (D (21 + c) = 1)) 16 >>> (nI c &&& 31)) &&& 1 = 0 ↔ D (21 + c) = 0 := by
      rw [q_bit1z (by omega), q_set_bt 16 (by omega) c (by omega)]
      rcases htorn c c16 with e | e <;> simp [e, c16]
    have second : ∀ D2, q_weep D w = upd D2 (45 + 4 * w) (q_hd (D (45 + 4 * w) - q_es (D (43 + 4 * w)) (D (44 + 4 * w)) (q_wept D w))) → ∀ μ2, q_g k μ μ2 → μ2 k = μ k → q_R k D2 μ2 → (D2 (43 + 4 * w) = D (43 + 4 * w) ∧ D2 (44 + 4 * w) = D (44 + 4 * w) ∧ D2 (45 + 4 * w) = D (45 + 4 * w)) → ∀ l3, gc_W (gc_S (d+4)) cX0_passYear 0 2 R 62 [.ref k, .int (nI w), .int (q_wept D w), l3] [] μ2 := by
      intro D2 e2 μ2 g2 gk2 R2 ⟨x1, x2, x3⟩ l3
      have b4 : μ2 (k + 4) w = nI kd := by rw [R2.2.2.1 w hi, x1, hkd]
      have b5 : μ2 (k + 5) w = nI m := by rw [R2.2.2.2.1 w hi, x2, hmm]
      have b6 : μ2 (k + 6) w = nI s := by rw [R2.2.2.2.2.1 w hi, x3, hs]
      simp only [u38_0, u38_1, u38_4, u38_5, u38_8, u38_10, u38_11, u38_12, u38_13, u38_14, u38_15, u38_18, u38_21, u38_22, u38_23, u38_26, u38_27, u38_28, u38_31, u38_32, u38_33, u38_34, u38_35, u38_38, u38_39, u38_40, u38_41, u38_42, u38_45, u38_46, u38_49, u38_50, u38_51, u38_54, u38_55, u38_56, u38_57, u38_58, u38_61, u38_62, u38_63, u38_66, u38_67, u38_68, u38_71, u38_72, u38_73, u38_74, u38_75, u38_78, u38_79, u38_82, u38_83, u38_84, u38_88, u38_89, u38_92, u38_94, u38_97, u38_98, u38_101, u38_102, u38_105, u38_106, u38_107, u38_110, u38_111, u38_112, u38_115, ly_kd, ly_al, ly_fv0, ly_fv1, ly_fv2, ly_fv3, ly_fv4, ly_fk, ly_ra, Option.toList, List.cons_append, List.nil_append, q_ski, q_skr, q_sku, if_true, if_false, K, vw, cw, true_and, t_kindOf K' hi b4 hkd6, b5, b6]
      refine t_eases hkd6 ?_
      simp only [u38_0, u38_1, u38_4, u38_5, u38_8, u38_10, u38_11, u38_12, u38_13, u38_14, u38_15, u38_18, u38_21, u38_22, u38_23, u38_26, u38_27, u38_28, u38_31, u38_32, u38_33, u38_34, u38_35, u38_38, u38_39, u38_40, u38_41, u38_42, u38_45, u38_46, u38_49, u38_50, u38_51, u38_54, u38_55, u38_56, u38_57, u38_58, u38_61, u38_62, u38_63, u38_66, u38_67, u38_68, u38_71, u38_72, u38_73, u38_74, u38_75, u38_78, u38_79, u38_82, u38_83, u38_84, u38_88, u38_89, u38_92, u38_94, u38_97, u38_98, u38_101, u38_102, u38_105, u38_106, u38_107, u38_110, u38_111, u38_112, u38_115, ly_kd, ly_al, ly_fv0, ly_fv1, ly_fv2, ly_fv3, ly_fv4, ly_fk, ly_ra, Option.toList, List.cons_append, List.nil_append, q_ski, q_skr, q_sku, if_true, if_false, K, vw, cw, true_and, t_held]
      refine tail _ rfl ok1 (eat 0 (by omega) (by omega)) (fun j hj => eat j (by omega) (by omega)) _ (fun o a b c => by rw [gc_up_ne (by omega)]; exact g2 o a b c) (by rw [gc_up_ne (by omega), gk2]) ?_ _ _ _
      rw [e2, hs, hkd, hmm]
      exact q_R_s R2 hi
    simp only [u38_0, u38_1, u38_4, u38_5, u38_8, u38_10, u38_11, u38_12, u38_13, u38_14, u38_15, u38_18, u38_21, u38_22, u38_23, u38_26, u38_27, u38_28, u38_31, u38_32, u38_33, u38_34, u38_35, u38_38, u38_39, u38_40, u38_41, u38_42, u38_45, u38_46, u38_49, u38_50, u38_51, u38_54, u38_55, u38_56, u38_57, u38_58, u38_61, u38_63, u38_66, u38_67, u38_68, u38_71, u38_72, u38_73, u38_74, u38_75, u38_78, u38_79, u38_82, u38_83, u38_84, u38_85_1, u38_85_3, u38_85_4, u38_85_5, u38_85_6, u38_85_8, u38_85_10, u38_88, u38_89, u38_92, u38_94, u38_97, u38_98, u38_101, u38_102, u38_105, u38_106, u38_107, u38_110, u38_111, u38_112, u38_115, ly_kd, ly_al, ly_fv0, ly_fv1, ly_fv2, ly_fv3, ly_fv4, ly_fk, ly_ra, Option.toList, List.cons_append, List.nil_append, q_ski, q_skr, q_sku, if_true, if_false, K, vw, cw, true_and, a7, a11, abit]
    by_cases ht : D (21 + c) = 0
    · rw [if_pos ht] at ewp
      have e5 : μ1 (k + 1) c = D (5 + c) := R1.1 c c16
      simp only [ht, if_true, u38_0, u38_1, u38_4, u38_5, u38_8, u38_10, u38_11, u38_12, u38_13, u38_14, u38_15, u38_18, u38_21, u38_22, u38_23, u38_26, u38_27, u38_28, u38_31, u38_32, u38_33, u38_34, u38_35, u38_38, u38_39, u38_40, u38_41, u38_42, u38_45, u38_46, u38_49, u38_50, u38_51, u38_54, u38_55, u38_56, u38_57, u38_58, u38_61, u38_63, u38_66, u38_67, u38_68, u38_71, u38_72, u38_73, u38_74, u38_75, u38_78, u38_79, u38_82, u38_83, u38_84, u38_85_1, u38_85_3, u38_85_4, u38_85_5, u38_85_6, u38_85_8, u38_85_10, u38_88, u38_89, u38_92, u38_94, u38_97, u38_98, u38_101, u38_102, u38_105, u38_106, u38_107, u38_110, u38_111, u38_112, u38_115, ly_kd, ly_al, ly_fv0, ly_fv1, ly_fv2, ly_fv3, ly_fv4, ly_fk, ly_ra, Option.toList, List.cons_append, List.nil_append, q_ski, q_skr, q_sku, if_true, if_false, K, vc, cc, true_and, e5, t_held]
      refine second _ ewp _ (fun o a b c => by rw [gc_up_ne (by omega)]; exact hμ o b c) (by rw [gc_up_ne (by omega), m1 _ (by omega)]) (q_R_w R1 c16) ⟨?_, ?_, ?_⟩ _
      · exact if_neg (by omega)
      · exact if_neg (by omega)
      · exact if_neg (by omega)
    · rw [if_neg ht] at ewp
      simp only [ht, if_false]
      exact second _ ewp _ (fun o a b c => hμ o b c) (m1 _ (by omega)) R1 ⟨rfl, rfl, rfl⟩ _
  · have hcond : ¬ (0 ≤ q_who D ∧ q_who D ≤ D 0 - 1) := by
      rw [hwho, hn]
      intro ⟨_, h2⟩
      rcases Nat.eq_zero_or_pos n with rfl | hp
      · have : ¬ nI w ≤ nI 0 - 1 := by
          have e : nI 0 - 1 = -1 := by decide
          rw [e]
          intro h3
          have := Int32.le_trans (nI_pos' (show w < 2 ^ 31 by omega)) h3
          exact absurd this (by decide)
        exact this h2
      · obtain ⟨n', rfl⟩ : ∃ n', n = n' + 1 := ⟨n - 1, by omega⟩
        rw [nI_pred] at h2
        exact absurd h2 (nI_ge (by omega) (by omega))
    rw [if_neg hcond] at tail
    simp only [show nI n ≤ nI w from nI_le (by omega) (by omega), if_true]
    exact tail D rfl hok' rfl (fun _ _ => rfl) μ q_g.rf rfl hR' _ _ _
