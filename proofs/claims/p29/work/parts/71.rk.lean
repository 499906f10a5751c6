/-! THE CALLS (8): the model's app, campaign -/
section ZRK
variable {G : za_G} {A : zA} {B : zB} {S : zS} {T : zT} {r0 : za_H}
theorem zapp_e (S : zS) (x : Nat) : zapp S x 12 0 0 = S 12 0 0 + 1 ∧ zapp S x 38 (S 12 0 0) 0 = x ∧ zapp S x 39 (S 12 0 0) 0 = 0 ∧ zapp S x 16 (S 12 0 0) 0 = 0 ∧ ∀ f a, f ≠ 12 → a ≠ S 12 0 0 → zapp S x f a = S f a := by
  unfold zapp
  refine ⟨zup_s _ _ _ _ _, ?_, ?_, ?_, fun f a hf ha => ?_⟩
  · rw [zup_o _ (by omega), zup_o _ (by omega), zup_o _ (by omega), zup_s]
  · rw [zup_o _ (by omega), zup_o _ (by omega), zup_s]
  · rw [zup_o _ (by omega), zup_s]
  · funext j
    rw [zup_o _ hf, zup_n _ (fun z => ha z.2.1), zup_n _ (fun z => ha z.2.1), zup_n _ (fun z => ha z.2.1)]
theorem zV_app (V : zinv S) (h6 : S 12 0 0 < 6) {x : Nat} (hx : x < 1000) : zinv (zapp S x) := by
  obtain ⟨e12, e38, e39, e16, en⟩ := zapp_e S x
  have hfo : ∀ g, g ∉ [38, 39, 16, 12] → zapp S x g = S g := fun g hg => by
    simp only [List.mem_cons, List.not_mem_nil, or_false, not_or] at hg
    exact zapp_o S x hg.1 hg.2.1 hg.2.2.1 hg.2.2.2
  have HH : zH (zapp S x) := by
    unfold zapp
    refine zH_zup (zH_zup (zH_zup (zH_zup V.1 ?_) ?_) ?_) ?_ <;> omega
  generalize zapp S x = S' at *
  refine ⟨HH, zv_go V.2 [38, 39, 16, 12] [2, 11] hfo (by decide) ?_⟩
  intro k hk
  simp only [List.mem_cons, List.not_mem_nil, or_false] at hk
  rcases hk with rfl | rfl
  · show S' 10 0 0 ≤ 24 ∧ S' 12 0 0 ≤ 6 ∧ S' 13 0 0 ≤ 8 ∧ S' 14 0 0 ≤ 60 ∧ S' 19 0 0 = S' 14 0 0
    rw [hfo 10 (by decide), hfo 13 (by decide), hfo 14 (by decide), hfo 19 (by decide), e12]
    obtain ⟨g1, g2, g3, g4, g5⟩ := zv_2 V
    exact ⟨g1, by omega, g3, g4, g5⟩
  · show ∀ a, a < S' 12 0 0 → S' 39 a 0 ≤ S' 11 0 0 ∧ S' 16 a 0 ≤ 24 ∧ ∀ j, j < S' 16 a 0 → S' 21 a j < S' 10 0 0
    rw [hfo 10 (by decide), hfo 11 (by decide), hfo 21 (by decide), e12]
    intro a ha
    by_cases z : a = S 12 0 0
    · subst z
      rw [e39, e16]
      exact ⟨by omega, by omega, fun j hj => by omega⟩
    · rw [en 39 a (by omega) z, en 16 a (by omega) z]
      exact zv_11 V a (by omega)
end ZRK
