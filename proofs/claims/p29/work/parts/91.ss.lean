/-! THE LAW (5): how many changes there can be -/
section ZSS
/-- items not yet released -/
def zun (S : zS) : Nat → Nat
  | 0 => 0
  | n + 1 => zun S n + (if S 0 0 0 < S 36 n 0 then 1 else 0)
/-- what the changes can still become -/
def zpot (S : zS) : Nat := S 11 0 0 + zun S (S 10 0 0) + 24 * (10 - zpc (S 1 0 0) 10)
variable {S S' : zS}
theorem zun_o (h0 : S' 0 0 0 = S 0 0 0) {n : Nat} (h36 : ∀ i, i < n → S' 36 i 0 = S 36 i 0) : zun S' n = zun S n := by
  induction n with
  | zero => rfl
  | succ n ih => unfold zun; rw [ih (fun i hi => h36 i (by omega)), h0, h36 n (by omega)]
theorem zpot_o (h0 : S' 0 = S 0) (h1 : S' 1 = S 1) (h10 : S' 10 = S 10) (h11 : S' 11 = S 11) (h36 : S' 36 = S 36) : zpot S' = zpot S := by
  unfold zpot
  rw [h1, h10, h11, zun_o (S' := S') (S := S) (by rw [h0]) (fun i _ => by rw [h36])]
theorem zpot_11 (h0 : S' 0 = S 0) (h1 : S' 1 = S 1) (h10 : S' 10 = S 10) (h36 : S' 36 = S 36) : zpot S' + S 11 0 0 = zpot S + S' 11 0 0 := by
  unfold zpot
  rw [h1, h10, zun_o (S' := S') (S := S) (by rw [h0]) (fun i _ => by rw [h36])]
  omega
theorem zpot_le (S : zS) : S 11 0 0 ≤ zpot S := by unfold zpot; omega
theorem zpot_s {n : Nat} (hn : n < 10) (hb : (S 1 0 0).testBit n = false) : S 11 0 0 + 24 ≤ zpot S := by
  have h : ∀ k, n < k → zpc (S 1 0 0) k + 1 ≤ k := fun k => by
    induction k with
    | zero => intro h; omega
    | succ k ih =>
      intro h
      unfold zpc
      by_cases z : n = k
      · subst z; rw [hb]; have := zpc_le (S 1 0 0) n; simp; omega
      · have := ih (by omega); split <;> omega
  have := h 10 hn
  unfold zpot
  omega
theorem zpc_up {m n : Nat} (hb : m.testBit n = false) : ∀ k, zpc (m ||| 2 ^ n) k = zpc m k + (if n < k then 1 else 0)
  | 0 => rfl
  | k + 1 => by
    unfold zpc
    rw [zpc_up hb k, Nat.testBit_or, Nat.testBit_two_pow]
    by_cases z : n = k
    · subst z; rw [hb]; simp
    · have : decide (n = k) = false := decide_eq_false z
      rw [this, Bool.or_false]
      by_cases y : n < k
      · rw [if_pos y, if_pos (show n < k + 1 by omega)]; omega
      · rw [if_neg y, if_neg (show ¬ n < k + 1 by omega)]; omega
theorem znote_p (S : zS) (i : Nat) : (∀ f, f ≠ 20 → f ≠ 11 → znote S i f = S f) ∧ znote S i 11 0 0 ≤ S 11 0 0 + 1 ∧ (S 0 0 0 < S 36 i 0 → znote S i 11 0 0 = S 11 0 0) := by
  unfold znote
  split
  · rename_i h
    exact ⟨fun f h1 h2 => (zup_o _ h2).trans (zup_o _ h1), by rw [zup_s]; omega, fun h2 => by omega⟩
  · exact ⟨fun f _ _ => rfl, by omega, fun _ => rfl⟩
theorem zpot_note (S : zS) (i : Nat) : zpot (znote S i) ≤ zpot S + 1 := by
  obtain ⟨h1, h2, h3⟩ := znote_p S i
  have := zpot_11 (S' := znote S i) (S := S) (h1 0 (by omega) (by omega)) (h1 1 (by omega) (by omega)) (h1 10 (by omega) (by omega)) (h1 36 (by omega) (by omega))
  omega
/-- releases -/
theorem zrl_p (S : zS) : ∀ n, (∀ f, f ≠ 20 → f ≠ 11 → zrl S n f = S f) ∧ ∀ t, t + 1 = S 0 0 0 → zrl S n 11 0 0 + zun S n = S 11 0 0 + zun (zup S 0 0 0 t) n
  | 0 => ⟨fun _ _ _ => rfl, fun _ _ => rfl⟩
  | n + 1 => by
    obtain ⟨h1, h2⟩ := zrl_p S n
    refine ⟨fun f hf hg => zrl_o S (n + 1) hf hg, fun t ht => ?_⟩
    have h2 := h2 t ht
    unfold zun zrl
    have e1 : zup S 0 0 0 t 0 0 0 = t := zup_s _ _ _ _ _
    have e2 : zup S 0 0 0 t 36 = S 36 := zup_o _ (by omega)
    rw [e1, e2]
    by_cases z : S 36 n 0 = S 0 0 0
    · rw [if_pos z, zchg_11, if_neg (by omega), if_pos (by omega)]; omega
    · rw [if_neg z]
      by_cases y : S 0 0 0 < S 36 n 0
      · rw [if_pos y, if_pos (by omega)]; omega
      · rw [if_neg y, if_neg (by omega)]; omega
end ZSS
