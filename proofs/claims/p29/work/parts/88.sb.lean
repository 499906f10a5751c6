/-! THE CALLS (24): pass -/
section ZSB
variable {G : za_G} {A : zA} {B : zB} {S : zS} {T : zT} {r0 : za_H}
theorem zV_0 (V : zinv S) {t : Nat} (h : S 0 0 0 ≤ t) (ht : t ≤ 9999) : zinv (zup S 0 0 0 t) := by
  refine ⟨zH_zup V.1 (by omega), zv_go V.2 [0] [1, 14] (fun f hf => zup_o S (fun y => hf (by rw [y]; exact List.mem_singleton.mpr rfl))) (by decide) ?_⟩
  intro k hk
  simp only [List.mem_cons, List.not_mem_nil, or_false] at hk
  rcases hk with rfl | rfl
  · show zup S 0 0 0 t 0 0 0 ≤ 9999 ∧ zup S 0 0 0 t 1 0 0 < 1024 ∧ zup S 0 0 0 t 2 0 0 < 1024 ∧ zup S 0 0 0 t 3 0 0 ≤ 200
    rw [zup_s, zup_o S (show (1 : Nat) ≠ 0 by omega), zup_o S (show (2 : Nat) ≠ 0 by omega), zup_o S (show (3 : Nat) ≠ 0 by omega)]
    obtain ⟨p1, p2, p3, p4⟩ := zv_1 V
    exact ⟨ht, p2, p3, p4⟩
  · show ∀ d, d < zup S 0 0 0 t 14 0 0 → zup S 0 0 0 t 48 d 0 < 10 ∧ zup S 0 0 0 t 49 d 0 < zup S 0 0 0 t 10 0 0 ∧ zup S 0 0 0 t 50 d 0 ≤ zup S 0 0 0 t 0 0 0 ∧ zup S 0 0 0 t 17 d 0 ≤ 10 ∧ zup S 0 0 0 t 18 d 0 ≤ zup S 0 0 0 t 3 0 0 ∧ zup S 0 0 0 t 53 d 0 < 256 ∧ zup S 0 0 0 t 54 d 0 < 32
    rw [zup_s, zup_o S (show (14 : Nat) ≠ 0 by omega), zup_o S (show (48 : Nat) ≠ 0 by omega), zup_o S (show (49 : Nat) ≠ 0 by omega), zup_o S (show (10 : Nat) ≠ 0 by omega), zup_o S (show (50 : Nat) ≠ 0 by omega), zup_o S (show (17 : Nat) ≠ 0 by omega), zup_o S (show (18 : Nat) ≠ 0 by omega), zup_o S (show (3 : Nat) ≠ 0 by omega), zup_o S (show (53 : Nat) ≠ 0 by omega), zup_o S (show (54 : Nat) ≠ 0 by omega)]
    intro d hd
    obtain ⟨p1, p2, p3, p4⟩ := zv_14 V d hd
    exact ⟨p1, p2, by omega, p4⟩
theorem zV_rl (V : zinv S) (h11 : S 11 0 0 + zeq S (S 0 0 0) (S 10 0 0) < 900000) : ∀ n, n ≤ S 10 0 0 → zinv (zrl S n) := by
  intro n
  induction n with
  | zero => intro _; exact V
  | succ n ih =>
    intro hn
    have ih := ih (by omega)
    have e10 : zrl S n 10 = S 10 := zrl_o S n (by omega) (by omega)
    have e36 : zrl S n 36 = S 36 := zrl_o S n (by omega) (by omega)
    have e0 : zrl S n 0 = S 0 := zrl_o S n (by omega) (by omega)
    have e11 := zrl_11 S n
    have hm := zeq_m S (S 0 0 0) n (S 10 0 0 - n)
    rw [show n + (S 10 0 0 - n) = S 10 0 0 by omega] at hm
    unfold zrl
    split
    · rename_i h
      have := zV_note ih (i := n) (by rw [e10]; omega) (by omega)
      unfold znote at this
      rw [if_pos (by rw [e36, e0]; omega)] at this
      exact this
    · exact ih
theorem zV_pass (V : zinv S) (h11 : S 11 0 0 + 24 < 900000) : ∀ n, S 0 0 0 + n ≤ 9999 → zinv (zps S n) := by
  intro n
  induction n with
  | zero => intro _; exact V
  | succ n ih =>
    intro hn
    obtain ⟨g1, g2, g3, g4, g5⟩ := zv_2 V
    have ih := ih (by omega)
    have e0 := zps_0 S n
    have e10 : zps S n 10 = S 10 := zps_o S n (by omega) (by omega) (by omega)
    have e11 := zps_11 S n
    have e11' := zps_11 S (n + 1)
    have hb := zbt_le S (S 0 0 0) (S 0 0 0 + (n + 1)) (S 10 0 0)
    have V1 := zV_0 ih (t := S 0 0 0 + n + 1) (by omega) (by omega)
    unfold zps at e11' ⊢
    rw [zrl_11] at e11'
    refine zV_rl V1 ?_ _ (by rw [zup_o _ (by omega), e10]; exact Nat.le_refl _)
    have o10 : zup (zps S n) 0 0 0 (S 0 0 0 + n + 1) 10 0 0 = S 10 0 0 := by rw [zup_o _ (by omega), e10]
    rw [o10]
    omega
end ZSB
