/-! THE LAW (8): a turn, the first call -/
section ZSW
variable {G : za_G} {A A' : zA} {B B' : zB} {S S' : zS} {T T' : zT} {r0 r0' : za_H} {n : Nat} {f : Nat → Int32}
/-- what stands at each turn -/
def zLI (G : za_G) (A : zA) (B : zB) (S : zS) (T : zT) (r0 : za_H) (n : Nat) (f : Nat → Int32) : Prop := zI G A B S r0 ∧ zMo A B ∧ zR S T ∧ zinv S ∧ zV A (90, 0, 0) ∧ zV A (91, 0, 0) ∧ B.1 11 0 0 = n ∧ T.1 91 = f
theorem zlI (L : zLI G A B S T r0 n f) : zmk A B S T r0 (A.1 (91, 0, 0)) = some (.inl (.int, n, .inl f)) := by
  obtain ⟨_, _, _, _, _, h, h1, h2⟩ := L
  rw [zmk_at h, zc_91, h1, h2]
theorem zlI_X (L : zLI G A B S T r0 n f) (X : zX A B A' B') (I : zI G A' B' S' r0') (hT : T'.1 = T.1) : zMo A' B' ∧ zV A' (90, 0, 0) ∧ zV A' (91, 0, 0) ∧ B'.1 11 0 0 = n ∧ T'.1 91 = f ∧ A'.1 (0, 0, 0) = A.1 (0, 0, 0) ∧ A'.1 (30, 0, 0) = A.1 (30, 0, 0) ∧ A'.1 (90, 0, 0) = A.1 (90, 0, 0) ∧ A'.1 (91, 0, 0) = A.1 (91, 0, 0) := by
  obtain ⟨_, ⟨m1, m2, m3⟩, _, _, h90, h91, h11, hf⟩ := L
  obtain ⟨x1, x2, x3, x4⟩ := X
  have g : ∀ r : zQ, 19 ≤ r.1 → A'.1 r = A.1 r ∧ (zV A r → zV A' r) := fun r h => x1 r (Or.inr h)
  refine ⟨⟨I.1.f, (g (30, 0, 0) (by decide)).2 m2, fun k hk hs => ⟨(g (31, k, 0) (show 19 ≤ 31 by decide)).2 (m3 k hk hs).1, ?_⟩⟩, (g _ (by decide)).2 h90, (g _ (by decide)).2 h91, by rw [x3]; exact h11, by rw [hT]; exact hf, (x1 (0, 0, 0) (Or.inl rfl)).1, (g _ (by decide)).1, (g _ (by decide)).1, (g _ (by decide)).1⟩
  rw [x2, (g (31, k, 0) (show 19 ≤ 31 by decide)).1]
  exact (m3 k hk hs).2
end ZSW
