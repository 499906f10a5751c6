/-! THE CALLS (7): the model's withdraw, cut, bot -/
theorem zor_t {b k l : Nat} : (b ||| 2 ^ k).testBit l = (b.testBit l || decide (l = k)) := by
  rw [Nat.testBit_or, Nat.testBit_two_pow]
  congr 1
  exact decide_eq_decide.mpr ⟨Eq.symm, Eq.symm⟩
section ZRJ
variable {G : za_G} {A : zA} {B : zB} {S : zS} {T : zT} {r0 : za_H}
end ZRJ
