/-! THE CALLS (6): the model's changes; withdraw, cut, bot -/
section ZRI
variable {G : za_G} {A : zA} {B : zB} {S : zS} {T : zT} {r0 : za_H}
theorem zV_37 (V : zinv S) {i : Nat} (hi : i < S 10 0 0) : zinv (zup S 37 i 0 1) := by
  refine ⟨zH_zup V.1 (by omega), zv_go V.2 [37] [6, 8] (fun f hf => zup_o S (fun y => hf (by rw [y]; exact List.mem_singleton.mpr rfl))) (by decide) ?_⟩
  intro k hk
  simp only [List.mem_cons, List.not_mem_nil, or_false] at hk
  rcases hk with rfl | rfl
  · show ∀ a, a < zup S 37 i 0 1 10 0 0 → zup S 37 i 0 1 36 a 0 ≤ 9999 ∧ zup S 37 i 0 1 37 a 0 ≤ 1
    rw [zup_o S (show (10 : Nat) ≠ 37 by omega), zup_o S (show (36 : Nat) ≠ 37 by omega)]
    intro a ha
    have := zv_6 V a ha
    refine ⟨this.1, ?_⟩
    by_cases z : a = i
    · subst z; rw [zup_s]; omega
    · rw [zup_n S (fun y => z y.2.1)]; exact this.2
  · show ∀ a, a < zup S 37 i 0 1 10 0 0 → zunc (zup S 37 i 0 1) a (zup S 37 i 0 1 15 a 0) = 0 → zup S 37 i 0 1 37 a 0 = 1
    rw [zup_o S (show (10 : Nat) ≠ 37 by omega), zup_o S (show (15 : Nat) ≠ 37 by omega)]
    intro a ha
    rw [zunc_S (zup_o S (by omega))]
    by_cases z : a = i
    · subst z; rw [zup_s]; exact fun _ => rfl
    · rw [zup_n S (fun y => z y.2.1)]; exact zv_8 V a ha
theorem zunc_33 {i j : Nat} (h : S 33 i j = 0) (n : Nat) : zunc (zup S 33 i j 1) i n + (if j < n then 1 else 0) = zunc S i n := by
  induction n with
  | zero => rfl
  | succ n ih =>
    unfold zunc
    by_cases z : n = j
    · subst z
      rw [zup_s, if_neg (by omega : ¬ (1 : Nat) = 0), if_pos h, if_pos (by omega)]
      rw [if_neg (by omega)] at ih
      omega
    · rw [zup_n S (fun y => z y.2.2)]
      by_cases y : j < n
      · rw [if_pos y] at ih; rw [if_pos (by omega : j < n + 1)]; omega
      · rw [if_neg y] at ih; rw [if_neg (by omega : ¬ j < n + 1)]; omega
theorem zV_33 (V : zinv S) {i j : Nat} (hi : i < S 10 0 0) (hj : j < S 15 i 0) (h0 : S 33 i j = 0) (h1 : 1 < zunc S i (S 15 i 0)) : zinv (zup S 33 i j 1) := by
  have u10 := zup_o S (f := 33) (i := i) (j := j) (v := 1) (show (10 : Nat) ≠ 33 by omega)
  have u15 := zup_o S (f := 33) (i := i) (j := j) (v := 1) (show (15 : Nat) ≠ 33 by omega)
  refine ⟨zH_zup V.1 (by omega), zv_go V.2 [33] [4, 7, 8, 9] (fun f hf => zup_o S (fun y => hf (by rw [y]; exact List.mem_singleton.mpr rfl))) (by decide) ?_⟩
  intro k hk
  simp only [List.mem_cons, List.not_mem_nil, or_false] at hk
  have h33 : ∀ a b, zup S 33 i j 1 33 a b ≤ 1 ∨ zup S 33 i j 1 33 a b = S 33 a b := fun a b => by
    unfold zup
    split
    · exact Or.inl (Nat.le_refl _)
    · exact Or.inr rfl
  rcases hk with rfl | rfl | rfl | rfl
  · show ∀ a b, a ≤ zup S 33 i j 1 10 0 0 → b < zup S 33 i j 1 15 a 0 → zup S 33 i j 1 30 a b ≤ 2 ∧ (zup S 33 i j 1 30 a b = 1 → 1 ≤ zup S 33 i j 1 32 a b ∧ zup S 33 i j 1 32 a b ≤ 10) ∧ (zup S 33 i j 1 30 a b = 2 → 1 ≤ zup S 33 i j 1 32 a b) ∧ zup S 33 i j 1 33 a b ≤ 1 ∧ zup S 33 i j 1 34 a b < 1024
    rw [u10, u15, zup_o S (show (30 : Nat) ≠ 33 by omega), zup_o S (show (32 : Nat) ≠ 33 by omega), zup_o S (show (34 : Nat) ≠ 33 by omega)]
    intro a b ha hb
    obtain ⟨p1, p2, p3, p4, p5⟩ := zv_4 V a b ha hb
    refine ⟨p1, p2, p3, ?_, p5⟩
    have := h33 a b
    omega
  · show ∀ a b, a < zup S 33 i j 1 10 0 0 → b < zup S 33 i j 1 15 a 0 → zup S 33 i j 1 33 a b = 0 → zout (zup S 33 i j 1) a b = false
    rw [u10, u15]
    intro a b ha hb hz
    rw [zout_S (zup_o S (by omega)) (zup_o S (by omega)) (zup_o S (by omega))]
    refine zv_7 V a b ha hb ?_
    by_cases z : a = i ∧ b = j
    · obtain ⟨rfl, rfl⟩ := z; exact h0
    · rw [zup_n S (fun y => z y.2)] at hz; exact hz
  · show ∀ a, a < zup S 33 i j 1 10 0 0 → zunc (zup S 33 i j 1) a (zup S 33 i j 1 15 a 0) = 0 → zup S 33 i j 1 37 a 0 = 1
    rw [u10, u15, zup_o S (show (37 : Nat) ≠ 33 by omega)]
    intro a ha hz
    by_cases z : a = i
    · subst z
      have := zunc_33 h0 (S 15 a 0)
      rw [if_pos hj] at this
      omega
    · rw [zunc_i (fun b => zup_n S (fun y => z y.2.1))] at hz
      exact zv_8 V a ha hz
  · show ∀ b, b < zup S 33 i j 1 15 (zup S 33 i j 1 10 0 0) 0 → zup S 33 i j 1 33 (zup S 33 i j 1 10 0 0) b = 0 ∧ zup S 33 i j 1 34 (zup S 33 i j 1 10 0 0) b = 0
    rw [u10, u15, zup_o S (show (34 : Nat) ≠ 33 by omega)]
    intro b hb
    rw [zup_n S (fun y => by omega)]
    exact zv_9 V b hb
/-- the changes' number is the law's care -/
theorem zV_note (V : zinv S) {i : Nat} (hi : i < S 10 0 0) (hn : S 11 0 0 < 1000000) : zinv (znote S i) := by
  unfold znote
  split
  · have u : ∀ f, f ∉ [20, 11] → zchg S i f = S f := fun f hf => by
      simp only [List.mem_cons, List.not_mem_nil, or_false, not_or] at hf
      exact zchg_o S i hf.1 hf.2
    have e11 := zchg_11 S i
    have e20 : zchg S i 20 (S 11 0 0) 0 = i := (zup_n _ (fun z => by omega)).trans (zup_s _ _ _ _ _)
    have e20' : ∀ j, j ≠ S 11 0 0 → zchg S i 20 j 0 = S 20 j 0 := fun j h => (zup_n _ (fun z => by omega)).trans (zup_n S (fun z => h z.2.1))
    have HH : zH (zchg S i) := zchg_H V.1 (by have := V.1 10 0 0; omega) (by omega)
    show zinv (zchg S i)
    generalize zchg S i = S' at *
    refine ⟨HH, zv_go V.2 [20, 11] [10, 11] u (by decide) ?_⟩
    intro k hk
    simp only [List.mem_cons, List.not_mem_nil, or_false] at hk
    rcases hk with rfl | rfl
    · show ∀ j, j < S' 11 0 0 → S' 20 j 0 < S' 10 0 0
      rw [e11, u 10 (by decide)]
      intro j hj
      by_cases z : j = S 11 0 0
      · subst z; rw [e20]; exact hi
      · rw [e20' j z]; exact zv_10 V j (by omega)
    · show ∀ a, a < S' 12 0 0 → S' 39 a 0 ≤ S' 11 0 0 ∧ S' 16 a 0 ≤ 24 ∧ ∀ j, j < S' 16 a 0 → S' 21 a j < S' 10 0 0
      rw [e11, u 10 (by decide), u 12 (by decide), u 39 (by decide), u 16 (by decide), u 21 (by decide)]
      intro a ha
      have := zv_11 V a ha
      exact ⟨by omega, this.2⟩
  · exact V
end ZRI
