def q_tf (torn : Int32) (was : Nat → Int32) (a b : Nat) : Int32 :=
  if (torn >>> (nI a &&& 31) ||| torn >>> (nI b &&& 31)) &&& 1 = 1 then 0 else if 10 ≤ was a - was b then 1 else if was a - was b ≤ -10 then -1 else 0
theorem q_sp_at {torn : Int32} {was w : Nat → Int32} {a b j : Nat} (hab : a ≠ b) : q_sp torn was a b w j = w j + (if j = b then q_tf torn was a b else if j = a then - q_tf torn was a b else 0) := by
  unfold q_sp q_tf
  by_cases h1 : (torn >>> (nI a &&& 31) ||| torn >>> (nI b &&& 31)) &&& 1 = 1
  · rw [if_pos h1, if_pos h1]
    by_cases hb : j = b
    · rw [if_pos hb, Int32.add_zero]
    · rw [if_neg hb]
      by_cases ha : j = a
      · rw [if_pos ha, Int32.neg_zero, Int32.add_zero]
      · rw [if_neg ha, Int32.add_zero]
  · rw [if_neg h1, if_neg h1]
    by_cases h2 : 10 ≤ was a - was b
    · rw [if_pos h2, if_pos h2]
      unfold upd
      by_cases hb : j = b
      · subst hb; rw [if_pos rfl, if_pos rfl, if_neg (fun e => hab e.symm)]
      · rw [if_neg hb, if_neg hb]
        by_cases ha : j = a
        · subst ha; rw [if_pos rfl, if_pos rfl]; exact Int32.sub_eq_add_neg ..
        · rw [if_neg ha, if_neg ha, Int32.add_zero]
    · rw [if_neg h2, if_neg h2]
      by_cases h3 : was a - was b ≤ -10
      · rw [if_pos h3, if_pos h3]
        unfold upd
        by_cases hb : j = b
        · subst hb; rw [if_pos rfl, if_pos rfl, if_neg (fun e => hab e.symm)]; exact Int32.sub_eq_add_neg ..
        · rw [if_neg hb, if_neg hb]
          by_cases ha : j = a
          · subst ha; rw [if_pos rfl, if_pos rfl]; rfl
          · rw [if_neg ha, if_neg ha, Int32.add_zero]
      · rw [if_neg h3, if_neg h3]
        by_cases hb : j = b
        · rw [if_pos hb, Int32.add_zero]
        · rw [if_neg hb]
          by_cases ha : j = a
          · rw [if_pos ha, Int32.neg_zero, Int32.add_zero]
          · rw [if_neg ha, Int32.add_zero]
