/-! THE CALLS (21): poll -/
section ZRY
variable {G : za_G} {A : zA} {B : zB} {S : zS} {T : zT} {r0 : za_H}
theorem zpl_b {a s : Nat} : ∀ j i, (zpm S a s j).testBit i = true ↔ ∃ k, k < zpl S a s j 16 a 0 ∧ zpl S a s j 21 a k = i := by
  intro j
  induction j with
  | zero =>
    intro i
    rw [show zpm S a s 0 = 0 from rfl, Nat.zero_testBit, show zpl S a s 0 16 a 0 = 0 from zup_s _ _ _ _ _]
    exact ⟨fun h => (by cases h), fun ⟨k, h, _⟩ => by omega⟩
  | succ j ih =>
    intro i
    have em : zpm S a s (j + 1) = if S 35 (S 20 (s + j) 0) 0 = S 38 a 0 ∧ (zpm S a s j).testBit (S 20 (s + j) 0) = false then zpm S a s j ||| 2 ^ (S 20 (s + j) 0) else zpm S a s j := rfl
    have el : zpl S a s (j + 1) = if S 35 (S 20 (s + j) 0) 0 = S 38 a 0 ∧ (zpm S a s j).testBit (S 20 (s + j) 0) = false then ztd (zpl S a s j) a (S 20 (s + j) 0) else zpl S a s j := rfl
    rw [em, el]
    by_cases z : S 35 (S 20 (s + j) 0) 0 = S 38 a 0 ∧ (zpm S a s j).testBit (S 20 (s + j) 0) = false
    · rw [if_pos z, if_pos z, zor_t, Bool.or_eq_true, ih i, decide_eq_true_iff]
      have e16 : ztd (zpl S a s j) a (S 20 (s + j) 0) 16 a 0 = zpl S a s j 16 a 0 + 1 := zup_s _ _ _ _ _
      have e21 : ∀ k, ztd (zpl S a s j) a (S 20 (s + j) 0) 21 a k = if k = zpl S a s j 16 a 0 then S 20 (s + j) 0 else zpl S a s j 21 a k := fun k => by
        unfold ztd
        rw [zup_o _ (by omega)]
        by_cases y : k = zpl S a s j 16 a 0
        · subst y; rw [zup_s, if_pos rfl]
        · rw [zup_n _ (fun w => y w.2.2), if_neg y]
      rw [e16]
      constructor
      · rintro (⟨k, h1, h2⟩ | h)
        · exact ⟨k, by omega, by rw [e21, if_neg (by omega)]; exact h2⟩
        · exact ⟨zpl S a s j 16 a 0, by omega, by rw [e21, if_pos rfl]; exact h.symm⟩
      · rintro ⟨k, h1, h2⟩
        rw [e21] at h2
        by_cases y : k = zpl S a s j 16 a 0
        · rw [if_pos y] at h2; exact Or.inr h2.symm
        · rw [if_neg y] at h2; exact Or.inl ⟨k, by omega, h2⟩
    · rw [if_neg z, if_neg z]; exact ih i
theorem zV_pl (V : zinv S) {a s : Nat} (ha : a < S 12 0 0) : ∀ j, s + j ≤ S 11 0 0 → zinv (zpl S a s j) := by
  intro j
  obtain ⟨g1, g2, g3, g4, g5⟩ := zv_2 V
  induction j with
  | zero =>
    intro _
    refine ⟨zH_zup V.1 (by omega), zv_go V.2 [16] [11] (fun f hf => zup_o S (fun y => hf (by rw [y]; exact List.mem_singleton.mpr rfl))) (by decide) ?_⟩
    intro k hk
    simp only [List.mem_cons, List.not_mem_nil, or_false] at hk
    subst hk
    show ∀ b, b < zup S 16 a 0 0 12 0 0 → zup S 16 a 0 0 39 b 0 ≤ zup S 16 a 0 0 11 0 0 ∧ zup S 16 a 0 0 16 b 0 ≤ 24 ∧ ∀ j, j < zup S 16 a 0 0 16 b 0 → zup S 16 a 0 0 21 b j < zup S 16 a 0 0 10 0 0
    rw [zup_o S (show (12 : Nat) ≠ 16 by omega), zup_o S (show (39 : Nat) ≠ 16 by omega), zup_o S (show (11 : Nat) ≠ 16 by omega), zup_o S (show (21 : Nat) ≠ 16 by omega), zup_o S (show (10 : Nat) ≠ 16 by omega)]
    intro b hb
    obtain ⟨p1, p2, p3⟩ := zv_11 V b hb
    by_cases z : b = a
    · subst z; rw [zup_s]; exact ⟨p1, by omega, fun j hj => by omega⟩
    · rw [zup_n S (fun y => z y.2.1)]; exact ⟨p1, p2, p3⟩
  | succ j ih =>
    intro hj
    have ih := ih (by omega)
    have h20 : ∀ k, k < s + (j + 1) → S 20 k 0 < 24 := fun k hk => by have := zv_10 V k (by omega); omega
    have e16 := zpl_16 (S := S) (a := a) (s := s) (k := j + 1) h20
    have hc := zpc_le (zpm S a s (j + 1)) 24
    have el : zpl S a s (j + 1) = if S 35 (S 20 (s + j) 0) 0 = S 38 a 0 ∧ (zpm S a s j).testBit (S 20 (s + j) 0) = false then ztd (zpl S a s j) a (S 20 (s + j) 0) else zpl S a s j := rfl
    by_cases z : S 35 (S 20 (s + j) 0) 0 = S 38 a 0 ∧ (zpm S a s j).testBit (S 20 (s + j) 0) = false
    · rw [if_pos z] at el
      rw [el] at e16 ⊢
      have hi := zv_10 V (s + j) (by omega)
      have u10 : zpl S a s j 10 = S 10 := zpl_o S a s j (by omega) (by omega)
      rw [← u10] at hi
      have ha' : a < zpl S a s j 12 0 0 := by rw [zpl_o S a s j (by omega) (by omega)]; exact ha
      generalize zpl S a s j = S1 at *
      have h16 : ztd S1 a (S 20 (s + j) 0) 16 a 0 = S1 16 a 0 + 1 := zup_s _ _ _ _ _
      have f16 : ∀ b, b ≠ a → ztd S1 a (S 20 (s + j) 0) 16 b 0 = S1 16 b 0 := fun b hb => by unfold ztd; rw [zup_n _ (fun y => hb y.2.1), zup_o _ (by omega)]
      have f21 : ∀ b k, ztd S1 a (S 20 (s + j) 0) 21 b k = if b = a ∧ k = S1 16 a 0 then S 20 (s + j) 0 else S1 21 b k := fun b k => by
        unfold ztd
        rw [zup_o _ (by omega)]
        by_cases z : b = a ∧ k = S1 16 a 0
        · obtain ⟨rfl, rfl⟩ := z; rw [zup_s, if_pos ⟨rfl, rfl⟩]
        · rw [zup_n _ (fun y => z y.2), if_neg z]
      have b20 := h20 (s + j) (by omega)
      refine ⟨zH_zup (zH_zup ih.1 (by omega)) (by omega), zv_go ih.2 [21, 16] [11] (fun f hf => by
        simp only [List.mem_cons, List.not_mem_nil, or_false, not_or] at hf
        exact ztd_o _ _ _ hf.1 hf.2) (by decide) ?_⟩
      intro k hk
      simp only [List.mem_cons, List.not_mem_nil, or_false] at hk
      subst hk
      show ∀ b, b < ztd S1 a (S 20 (s + j) 0) 12 0 0 → ztd S1 a (S 20 (s + j) 0) 39 b 0 ≤ ztd S1 a (S 20 (s + j) 0) 11 0 0 ∧ ztd S1 a (S 20 (s + j) 0) 16 b 0 ≤ 24 ∧ ∀ k, k < ztd S1 a (S 20 (s + j) 0) 16 b 0 → ztd S1 a (S 20 (s + j) 0) 21 b k < ztd S1 a (S 20 (s + j) 0) 10 0 0
      rw [ztd_o _ _ _ (show (12 : Nat) ≠ 21 by omega) (by omega), ztd_o _ _ _ (show (39 : Nat) ≠ 21 by omega) (by omega), ztd_o _ _ _ (show (11 : Nat) ≠ 21 by omega) (by omega), ztd_o _ _ _ (show (10 : Nat) ≠ 21 by omega) (by omega)]
      intro b hb
      obtain ⟨p1, p2, p3⟩ := zv_11 ih b hb
      by_cases y : b = a
      · subst y
        rw [h16] at e16 ⊢
        refine ⟨p1, by omega, fun k hk => ?_⟩
        rw [f21]
        by_cases w : k = S1 16 b 0
        · rw [if_pos ⟨rfl, w⟩]; exact hi
        · rw [if_neg (fun x => w x.2)]; exact p3 k (by omega)
      · rw [f16 b y]
        refine ⟨p1, p2, fun k hk => ?_⟩
        rw [f21, if_neg (fun x => y x.1)]
        exact p3 k hk
    · rw [if_neg z] at el
      rw [el]; exact ih
theorem zV_poll (V : zinv S) {a : Nat} (ha : a < S 12 0 0) : zinv (zpoll S a) := by
  have h39 := (zv_11 V a ha).1
  have V1 := zV_pl V (s := S 39 a 0) ha (S 11 0 0 - S 39 a 0) (by omega)
  have b11 := V.1 11 0 0
  have u11 : zpl S a (S 39 a 0) (S 11 0 0 - S 39 a 0) 11 = S 11 := zpl_o _ _ _ _ (by omega) (by omega)
  unfold zpoll
  generalize zpl S a (S 39 a 0) (S 11 0 0 - S 39 a 0) = S1 at *
  refine ⟨zH_zup V1.1 (by omega), zv_go V1.2 [39] [11] (fun f hf => zup_o S1 (fun y => hf (by rw [y]; exact List.mem_singleton.mpr rfl))) (by decide) ?_⟩
  intro k hk
  simp only [List.mem_cons, List.not_mem_nil, or_false] at hk
  subst hk
  show ∀ b, b < zup S1 39 a 0 (S 11 0 0) 12 0 0 → zup S1 39 a 0 (S 11 0 0) 39 b 0 ≤ zup S1 39 a 0 (S 11 0 0) 11 0 0 ∧ zup S1 39 a 0 (S 11 0 0) 16 b 0 ≤ 24 ∧ ∀ j, j < zup S1 39 a 0 (S 11 0 0) 16 b 0 → zup S1 39 a 0 (S 11 0 0) 21 b j < zup S1 39 a 0 (S 11 0 0) 10 0 0
  rw [zup_o S1 (show (12 : Nat) ≠ 39 by omega), zup_o S1 (show (16 : Nat) ≠ 39 by omega), zup_o S1 (show (11 : Nat) ≠ 39 by omega), zup_o S1 (show (21 : Nat) ≠ 39 by omega), zup_o S1 (show (10 : Nat) ≠ 39 by omega)]
  intro b hb
  obtain ⟨p1, p2, p3⟩ := zv_11 V1 b hb
  refine ⟨?_, p2, p3⟩
  unfold zup
  split
  · rw [u11]; exact Nat.le_refl _
  · exact p1
end ZRY
