/-! THE CALLS (25): item -/
section ZSC
variable {G : za_G} {A : zA} {B : zB} {S : zS} {r0 : za_H}
theorem zuse_t (S : zS) : ∀ k j, zuse S k j = true ↔ ∃ m, j ≤ m ∧ m < j + k ∧ zout S (S 10 0 0) m = false := by
  intro k
  induction k with
  | zero => intro j; exact ⟨fun h => (by cases h), fun ⟨m, h1, h2, _⟩ => by omega⟩
  | succ k ih =>
    intro j
    unfold zuse
    by_cases z : zout S (S 10 0 0) j = false
    · rw [if_pos z]; exact ⟨fun _ => ⟨j, by omega, by omega, z⟩, fun _ => rfl⟩
    · rw [if_neg z, ih (j + 1)]
      constructor
      · rintro ⟨m, h1, h2, h3⟩; exact ⟨m, by omega, by omega, h3⟩
      · rintro ⟨m, h1, h2, h3⟩
        have : m ≠ j := fun y => z (by rw [← y]; exact h3)
        exact ⟨m, by omega, by omega, h3⟩
theorem zunc_pos {S : zS} {i : Nat} : ∀ n, (∃ m, m < n ∧ S 33 i m = 0) → zunc S i n ≠ 0 := by
  intro n
  induction n with
  | zero => rintro ⟨m, h, _⟩; omega
  | succ n ih =>
    rintro ⟨m, h1, h2⟩
    unfold zunc
    by_cases z : m = n
    · subst z; rw [if_pos h2]; omega
    · have := ih ⟨m, by omega, h2⟩
      omega
/-- the state with an item more, its parts that are out cut -/
theorem zitem_e (V : zinv S) (x y : Nat) (hu : zuse S (S 15 (S 10 0 0) 0) 0 = true) :
    (∀ g, g ∉ [35, 36, 37, 15, 10, 33] → zcut (zitem S x y) (S 10 0 0) g = S g) ∧ zcut (zitem S x y) (S 10 0 0) 10 0 0 = S 10 0 0 + 1 ∧ zcut (zitem S x y) (S 10 0 0) 15 (S 10 0 0 + 1) 0 = 0 ∧ (∀ i, i ≤ S 10 0 0 → zcut (zitem S x y) (S 10 0 0) 15 i 0 = S 15 i 0) ∧ (zcut (zitem S x y) (S 10 0 0) 35 (S 10 0 0) 0 = x ∧ zcut (zitem S x y) (S 10 0 0) 36 (S 10 0 0) 0 = y ∧ zcut (zitem S x y) (S 10 0 0) 37 (S 10 0 0) 0 = 0) ∧ (∀ g i, g = 35 ∨ g = 36 ∨ g = 37 → i ≠ S 10 0 0 → zcut (zitem S x y) (S 10 0 0) g i 0 = S g i 0) ∧ (∀ b, b < S 15 (S 10 0 0) 0 → zcut (zitem S x y) (S 10 0 0) 33 (S 10 0 0) b = if zout S (S 10 0 0) b = true then 1 else 0) ∧ (∀ i b, i ≠ S 10 0 0 → zcut (zitem S x y) (S 10 0 0) 33 i b = S 33 i b) := by
  have so : ∀ f, f ≠ 35 → f ≠ 36 → f ≠ 37 → f ≠ 15 → f ≠ 10 → zitem S x y f = S f := fun f => zitem_o S x y
  have s10 : zitem S x y 10 0 0 = S 10 0 0 + 1 := zup_s _ _ _ _ _
  have s15' : ∀ i, i ≠ S 10 0 0 + 1 → zitem S x y 15 i 0 = S 15 i 0 := fun i h => by
    unfold zitem
    rw [zup_o _ (by omega), zup_n _ (fun z => h z.2.1), zup_o _ (by omega), zup_o _ (by omega), zup_o _ (by omega)]
  have s15 : zitem S x y 15 (S 10 0 0 + 1) 0 = 0 := by unfold zitem; rw [zup_o _ (by omega), zup_s]
  have s35 : zitem S x y 35 (S 10 0 0) 0 = x := by unfold zitem; rw [zup_o _ (by omega), zup_o _ (by omega), zup_o _ (by omega), zup_o _ (by omega), zup_s]
  have s36 : zitem S x y 36 (S 10 0 0) 0 = y := by unfold zitem; rw [zup_o _ (by omega), zup_o _ (by omega), zup_o _ (by omega), zup_s]
  have s37 : zitem S x y 37 (S 10 0 0) 0 = 0 := by unfold zitem; rw [zup_o _ (by omega), zup_o _ (by omega), zup_s]
  have sn : ∀ g i, (g = 35 ∨ g = 36 ∨ g = 37) → i ≠ S 10 0 0 → zitem S x y g i 0 = S g i 0 := fun g i hg hi => by
    unfold zitem
    rw [zup_o _ (by omega), zup_o _ (by omega), zup_n _ (fun z => hi z.2.1), zup_n _ (fun z => hi z.2.1), zup_n _ (fun z => hi z.2.1)]
  have hout : ∀ i j, zout (zitem S x y) i j = zout S i j := fun i j => zout_S (so 30 (by omega) (by omega) (by omega) (by omega) (by omega)) (so 1 (by omega) (by omega) (by omega) (by omega) (by omega)) (so 32 (by omega) (by omega) (by omega) (by omega) (by omega)) i j
  have s33 : zitem S x y 33 = S 33 := so 33 (by omega) (by omega) (by omega) (by omega) (by omega)
  have ew := zcw_e (zitem S x y) (S 10 0 0) (zitem S x y 15 (S 10 0 0) 0)
  have hD : zitem S x y 15 (S 10 0 0) 0 = S 15 (S 10 0 0) 0 := s15' _ (by omega)
  have e33 := zcut_33 (zitem S x y) (S 10 0 0)
  have hcut : zcut (zitem S x y) (S 10 0 0) = zcw (zitem S x y) (S 10 0 0) (S 15 (S 10 0 0) 0) := by
    unfold zcut
    rw [hD, if_neg]
    obtain ⟨m, h1, h2, h3⟩ := (zuse_t S _ 0).mp hu
    refine zunc_pos _ ⟨m, by omega, ?_⟩
    rw [zcw_e, if_neg (fun w => by rw [hout, h3] at w; cases w.2.2.2), s33]
    exact (zv_9 V m (by omega)).1
  have ho : ∀ g, g ≠ 33 → zcut (zitem S x y) (S 10 0 0) g = zitem S x y g := fun g hg => by rw [hcut]; exact zcw_o _ _ _ hg
  refine ⟨fun g hg => ?_, ?_, ?_, fun i hi => ?_, ⟨?_, ?_, ?_⟩, fun g i hg hi => ?_, fun b hb => ?_, fun i b hi => ?_⟩
  · simp only [List.mem_cons, List.not_mem_nil, or_false, not_or] at hg
    rw [ho g hg.2.2.2.2.2, so g hg.1 hg.2.1 hg.2.2.1 hg.2.2.2.1 hg.2.2.2.2.1]
  · rw [ho 10 (by omega), s10]
  · rw [ho 15 (by omega), s15]
  · rw [ho 15 (by omega), s15' i (by omega)]
  · rw [ho 35 (by omega), s35]
  · rw [ho 36 (by omega), s36]
  · rw [ho 37 (by omega), s37]
  · rw [ho g (by omega), sn g i hg hi]
  · rw [e33, ew, hD, hout, s33]
    by_cases z : zout S (S 10 0 0) b = true
    · rw [if_pos ⟨rfl, hb, (zv_9 V b hb).1, z⟩, if_pos z]
    · rw [if_neg (fun w => z w.2.2.2), if_neg z, (zv_9 V b hb).1]
  · rw [e33, ew, if_neg (fun w => hi w.1), s33]
end ZSC
