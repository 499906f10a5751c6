/-! THE CALLS (1): talk, music, slot -/
section ZRD
variable {G : za_G} {A : zA} {B : zB} {S : zS} {T : zT} {r0 : za_H}
theorem zdraft_o (S : zS) (a b c : Nat) {f : Nat} (h : f ≠ 15) (h' : f ≤ 29 ∨ 35 ≤ f) : zdraft S a b c f = S f := by
  unfold zdraft
  rw [zup_o _ h, zpart_n _ h']
theorem zpart_v (S : zS) (i j a b c : Nat) : zpart S i j a b c 30 i j = a ∧ zpart S i j a b c 31 i j = b ∧ zpart S i j a b c 32 i j = c ∧ zpart S i j a b c 33 i j = 0 ∧ zpart S i j a b c 34 i j = 0 := by
  unfold zpart
  simp [zup]
theorem zpart_m (S : zS) {i j a b c f i' j' : Nat} (h : ¬ (i' = i ∧ j' = j)) : zpart S i j a b c f i' j' = S f i' j' := by
  unfold zpart
  rw [zup_n _ (fun z => h z.2), zup_n _ (fun z => h z.2), zup_n _ (fun z => h z.2), zup_n _ (fun z => h z.2), zup_n _ (fun z => h z.2)]
/-- the draft's part more, field by field -/
theorem zdraft_e (S : zS) (a b c : Nat) : zdraft S a b c 15 (S 10 0 0) 0 = S 15 (S 10 0 0) 0 + 1 ∧ (∀ i, i ≠ S 10 0 0 → zdraft S a b c 15 i = S 15 i) ∧ (∀ f i j, f ≠ 15 → ¬ (i = S 10 0 0 ∧ j = S 15 (S 10 0 0) 0) → zdraft S a b c f i j = S f i j) ∧ (zdraft S a b c 30 (S 10 0 0) (S 15 (S 10 0 0) 0) = a ∧ zdraft S a b c 31 (S 10 0 0) (S 15 (S 10 0 0) 0) = b ∧ zdraft S a b c 32 (S 10 0 0) (S 15 (S 10 0 0) 0) = c ∧ zdraft S a b c 33 (S 10 0 0) (S 15 (S 10 0 0) 0) = 0 ∧ zdraft S a b c 34 (S 10 0 0) (S 15 (S 10 0 0) 0) = 0) := by
  unfold zdraft
  refine ⟨zup_s _ _ _ _ _, fun i h => ?_, fun f i j hf h => ?_, ?_⟩
  · funext j
    rw [zup_n _ (fun z => h z.2.1)]
    exact congrFun (congrFun (zpart_n S (Or.inl (by omega))) i) j
  · rw [zup_o _ hf]
    exact zpart_m S h
  · rw [zup_o _ (by omega), zup_o _ (by omega), zup_o _ (by omega), zup_o _ (by omega), zup_o _ (by omega)]
    exact zpart_v S _ _ a b c
theorem zunc_i {S S' : zS} {i : Nat} (h : ∀ j, S' 33 i j = S 33 i j) (n : Nat) : zunc S' i n = zunc S i n := by
  induction n with
  | zero => rfl
  | succ n ih => unfold zunc; rw [ih, h]
theorem zV_draft (V : zinv S) {a b c : Nat} (hn : S 15 (S 10 0 0) 0 < 10) (ha : a ≤ 2) (hb : b ≤ 999) (hc : c < 1000) (h1 : a = 1 → 1 ≤ c ∧ c ≤ 10) (h2 : a = 2 → 1 ≤ c) (h3 : a ≠ 2 → 1 ≤ b) : zinv (zdraft S a b c) := by
  obtain ⟨e15, n15, nf, v30, v31, v32, v33, v34⟩ := zdraft_e S a b c
  have e10 : zdraft S a b c 10 = S 10 := zdraft_o S a b c (by omega) (by omega)
  have HH : zH (zdraft S a b c) := by
    unfold zdraft zpart
    refine zH_zup (zH_zup (zH_zup (zH_zup (zH_zup (zH_zup V.1 ?_) ?_) ?_) ?_) ?_) ?_ <;> omega
  have hfo : ∀ g, g ∉ [15, 30, 31, 32, 33, 34] → zdraft S a b c g = S g := fun g hg => by
    simp only [List.mem_cons, List.not_mem_nil, or_false, not_or] at hg
    exact zdraft_o S a b c hg.1 (by omega)
  generalize hS' : zdraft S a b c = S' at *
  have l15 : ∀ i, i < S 10 0 0 → S' 15 i 0 = S 15 i 0 := fun i hi => by rw [n15 i (by omega)]
  have lf : ∀ f i j, f ≠ 15 → i < S 10 0 0 → S' f i j = S f i j := fun f i j hf hi => nf f i j hf (by omega)
  have l1 : S' 1 = S 1 := hfo 1 (by decide)
  have k14 := zv_14 V
  have k15 := zv_15 V
  have zpq' : ∀ d k, d < S 14 0 0 → k < S 17 d 0 → zpq S' d k = zpq S d k := fun d k hd hk => by
    unfold zpq
    rw [hfo 58 (by decide), hfo 49 (by decide), hfo 55 (by decide), hfo 42 (by decide), lf 31 _ _ (by omega) (k14 d hd).2.1]
  have zso' : ∀ d k, d < S 14 0 0 → k ≤ S 17 d 0 → zso S' d k = zso S d k := fun d k hd => by
    induction k with
    | zero => intro _; rfl
    | succ k ih => intro hk; unfold zso; rw [ih (by omega), zpq' d k hd (by omega)]
  refine ⟨HH, zv_go V.2 [15, 30, 31, 32, 33, 34] [3, 4, 5, 7, 8, 9, 15, 16, 24, 25] hfo (by decide) ?_⟩
  intro k hk
  simp only [List.mem_cons, List.not_mem_nil, or_false] at hk
  rcases hk with rfl | rfl | rfl | rfl | rfl | rfl | rfl | rfl | rfl | rfl
  · show ∀ i, i ≤ S' 10 0 0 → S' 15 i 0 ≤ 10
    rw [e10]
    intro i hi
    by_cases z : i = S 10 0 0
    · subst z; rw [e15]; omega
    · rw [l15 i (by omega)]; exact zv_3 V i hi
  · show ∀ i j, i ≤ S' 10 0 0 → j < S' 15 i 0 → S' 30 i j ≤ 2 ∧ (S' 30 i j = 1 → 1 ≤ S' 32 i j ∧ S' 32 i j ≤ 10) ∧ (S' 30 i j = 2 → 1 ≤ S' 32 i j) ∧ S' 33 i j ≤ 1 ∧ S' 34 i j < 1024
    rw [e10]
    intro i j hi hj
    by_cases z : i = S 10 0 0 ∧ j = S 15 (S 10 0 0) 0
    · obtain ⟨rfl, rfl⟩ := z
      rw [v30, v32, v33, v34]
      exact ⟨ha, h1, h2, by omega, by omega⟩
    · rw [nf 30 i j (by omega) z, nf 32 i j (by omega) z, nf 33 i j (by omega) z, nf 34 i j (by omega) z]
      refine zv_4 V i j hi ?_
      by_cases y : i = S 10 0 0
      · subst y; rw [e15] at hj; omega
      · rw [l15 i (by omega)] at hj; exact hj
  · show ∀ i j, S' 31 i j ≤ 999
    intro i j
    by_cases z : i = S 10 0 0 ∧ j = S 15 (S 10 0 0) 0
    · obtain ⟨rfl, rfl⟩ := z; rw [v31]; exact hb
    · rw [nf 31 i j (by omega) z]; exact zv_5 V i j
  · show ∀ i j, i < S' 10 0 0 → j < S' 15 i 0 → S' 33 i j = 0 → zout S' i j = false
    rw [e10]
    intro i j hi hj
    rw [l15 i hi] at hj
    unfold zout
    rw [lf 33 i j (by omega) hi, lf 30 i j (by omega) hi, lf 32 i j (by omega) hi, l1]
    exact zv_7 V i j hi hj
  · show ∀ i, i < S' 10 0 0 → zunc S' i (S' 15 i 0) = 0 → S' 37 i 0 = 1
    rw [e10]
    intro i hi
    rw [l15 i hi, hfo 37 (by decide), show zunc S' i (S 15 i 0) = zunc S i (S 15 i 0) from zunc_i (fun j => lf 33 i j (by omega) hi) _]
    exact zv_8 V i hi
  · show ∀ j, j < S' 15 (S' 10 0 0) 0 → S' 33 (S' 10 0 0) j = 0 ∧ S' 34 (S' 10 0 0) j = 0
    rw [e10, e15]
    intro j hj
    by_cases z : j = S 15 (S 10 0 0) 0
    · subst z; exact ⟨v33, v34⟩
    · rw [nf 33 _ _ (by omega) (fun y => z y.2), nf 34 _ _ (by omega) (fun y => z y.2)]
      exact zv_9 V j (by omega)
  · show ∀ d k, d < S' 14 0 0 → k < S' 17 d 0 → S' 55 d k < S' 15 (S' 49 d 0) 0 ∧ S' 58 d k ≤ S' 13 0 0 ∧ S' 56 d k = zso S' d k ∧ S' 57 d k = zso S' d (k + 1)
    rw [hfo 14 (by decide), hfo 17 (by decide), hfo 55 (by decide), hfo 49 (by decide), hfo 58 (by decide), hfo 13 (by decide), hfo 56 (by decide), hfo 57 (by decide)]
    intro d k hd hk
    rw [l15 _ (k14 d hd).2.1, zso' d k hd (by omega), zso' d (k + 1) hd (by omega)]
    exact k15 d k hd hk
  · show ∀ d, d < S' 14 0 0 → S' 51 d 0 = zso S' d (S' 17 d 0)
    rw [hfo 14 (by decide), hfo 17 (by decide), hfo 51 (by decide)]
    intro d hd
    rw [zso' d _ hd (Nat.le_refl _)]
    exact zv_16 V d hd
  · show ∀ d k, d < S' 14 0 0 → k < S' 17 d 0 → S' 58 d k ≠ 0 → S' 30 (S' 49 d 0) (S' 55 d k) = 2
    rw [hfo 14 (by decide), hfo 17 (by decide), hfo 58 (by decide), hfo 49 (by decide), hfo 55 (by decide)]
    intro d k hd hk
    rw [lf 30 _ _ (by omega) (k14 d hd).2.1]
    exact zv_24 V d k hd hk
  · show ∀ i j, i ≤ S' 10 0 0 → j < S' 15 i 0 → S' 30 i j ≠ 2 → 1 ≤ S' 31 i j
    rw [e10]
    intro i j hi hj
    by_cases z : i = S 10 0 0 ∧ j = S 15 (S 10 0 0) 0
    · obtain ⟨rfl, rfl⟩ := z
      rw [v30, v31]
      exact h3
    · rw [nf 30 i j (by omega) z, nf 31 i j (by omega) z]
      refine zv_25 V i j hi ?_
      by_cases y : i = S 10 0 0
      · subst y; rw [e15] at hj; omega
      · rw [l15 i (by omega)] at hj; exact hj
end ZRD
