/-! THE BEGINNING (4): the first state -/
section ZSV8
theorem z0 (f i j : Nat) : zS0 f i j = 0 := rfl
theorem zinv_0 : zinv zS0 := by
  refine ⟨fun f i j => by rw [z0]; omega, fun k => ?_⟩
  unfold zv
  split
  all_goals first
    | trivial
    | (simp only [z0]; omega)
    | (intro a h; exact absurd h (Nat.not_lt_zero _))
    | (intro a b h; exact absurd h (Nat.not_lt_zero _))
    | (intro a b h h2; exact absurd h2 (Nat.not_lt_zero _))
    | (intro a b c h; exact absurd h (Nat.not_lt_zero _))
    | (intro i hi; exact Nat.zero_le _)
    | (intro i j; exact Nat.zero_le _)
theorem zpot_0 : zpot zS0 = 240 := by
  have : zpc (zS0 1 0 0) 10 = 0 := zpc_0 10
  unfold zpot
  rw [this]
  rfl
end ZSV8
