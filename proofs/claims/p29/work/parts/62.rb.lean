/-! THE MODEL (2): how the model stands to the class -/
/-- whether second s of d lies in one of its first ranges -/
def zld (S : zS) (d s : Nat) : Nat → Bool
  | 0 => false
  | r + 1 => zld S d s r || (decide (S 59 d r ≤ s) && decide (s < S 60 d r))
theorem zld_S {S S' : zS} (h9 : S' 59 = S 59) (h0 : S' 60 = S 60) (d s n : Nat) : zld S' d s n = zld S d s n := by
  induction n with
  | zero => rfl
  | succ n ih => unfold zld; rw [ih, h9, h0]
