def q_tc (torn : Int32) (was : Nat → Int32) (j a b : Nat) : Int32 := if j = b then q_tf torn was a b else if j = a then - q_tf torn was a b else 0
def q_sqc (torn : Int32) (was : Nat → Int32) (j : Nat) : Nat → Int32
  | 0 => 0
  | c + 1 => q_sqc torn was j c + (if c % 4 < 3 then q_tc torn was j c (c + 1) else 0) + (if c < 12 then q_tc torn was j c (c + 4) else 0)
theorem q_sq_at {torn : Int32} {was w : Nat → Int32} {j : Nat} : ∀ n, q_sq torn was w n j = w j + q_sqc torn was j n
  | 0 => (Int32.add_zero _).symm
  | c + 1 => by
    have ih := @q_sq_at torn was w j c
    show ((if c < 12 then q_sp torn was c (c + 4) else fun x => x) ((if c % 4 < 3 then q_sp torn was c (c + 1) else fun x => x) (q_sq torn was w c))) j = w j + (q_sqc torn was j c + (if c % 4 < 3 then q_tc torn was j c (c + 1) else 0) + (if c < 12 then q_tc torn was j c (c + 4) else 0))
    have h1 : ((if c % 4 < 3 then q_sp torn was c (c + 1) else fun x => x) (q_sq torn was w c)) j = w j + (q_sqc torn was j c + (if c % 4 < 3 then q_tc torn was j c (c + 1) else 0)) := by
      by_cases h : c % 4 < 3
      · rw [if_pos h, if_pos h, q_sp_at (by omega), ih, Int32.add_assoc]; rfl
      · rw [if_neg h, if_neg h, Int32.add_zero]; exact ih
    by_cases h : c < 12
    · rw [if_pos h, if_pos h, q_sp_at (by omega), h1, Int32.add_assoc]; rfl
    · rw [if_neg h, if_neg h, Int32.add_zero]; exact h1
