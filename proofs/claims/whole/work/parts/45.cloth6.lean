def q_spr (s : Int32) : Int32 := s ||| ((s &&& -34953) <<< ((1 : Int32) &&& 31) ||| (s &&& -4370) >>> ((1 : Int32) &&& 31)) ||| (s <<< ((4 : Int32) &&& 31) &&& 65535 ||| s >>> ((4 : Int32) &&& 31))
theorem t_spread {d : Nat} {R : gR} {μ : gM} {s : Int32} : gc_S (d + 1) 28 [.int s] μ R ↔ R (some (.int (q_spr s))) μ := by
  simp only [s28, u28_0, u28_1, u28_4, u28_5, u28_6, u28_7, u28_8, u28_11, u28_12, u28_13, u28_14, u28_15, u28_16, u28_17, u28_18, u28_19, u28_22, u28_23, u28_24, u28_25, u28_26, u28_27, u28_28, u28_29, u28_30, u28_31, u28_32, u28_33, Option.toList, List.cons_append, List.nil_append, q_ski, q_skr, q_sku, if_true, if_false]
  exact Iff.rfl
theorem q_besv : ∀ c, c < 16 → q_spr ((1 : Int32) <<< (nI c &&& 31)) &&& ((1 : Int32) <<< (nI c &&& 31) ^^^ -1) = q_set (fun b => q_adj c b) 16 := by decide +kernel
theorem t_beside {d : Nat} {R : gR} {μ : gM} {c : Nat} (hc : c < 16) : gc_S (d + 2) 29 [.int (nI c)] μ R ↔ R (some (.int (q_set (fun b => q_adj c b) 16))) μ := by
  simp only [s29, u29_0, u29_1, u29_2, u29_3, u29_4, u29_5, u29_8, u29_9, u29_10, u29_11, u29_12, Option.toList, List.cons_append, List.nil_append, q_ski, q_skr, q_sku, if_true, if_false, t_spread, q_besv c hc]
