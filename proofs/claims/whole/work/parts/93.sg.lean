/-! THE CALLS (29): ask, the state while a download is made -/
/-- with the download in the making counted -/
def zh1 (S : zS) (d : Nat) : zS := zup S 14 0 0 (d + 1)
section ZSG
variable {S S' : zS} {T T0 : zT}
theorem zh1_14 (S : zS) (d : Nat) : zh1 S d 14 0 0 = d + 1 := zup_s _ _ _ _ _
theorem zh1_o (S : zS) (d : Nat) {f : Nat} (h : f ≠ 14) : zh1 S d f = S f := zup_o S h
theorem zbest_2 {d p : Nat} (h14 : S 14 0 0 = d) : ∀ n, zbest2 (zh1 S d) d d p n = zbest S d p n := by
  have ht : ∀ c l m, ztoday (zh1 S d) c l m = ztoday S c l m := fun c l m => by
    induction m with
    | zero => rfl
    | succ m ih => unfold ztoday; rw [ih, zh1_o S d (show (48 : Nat) ≠ 14 by omega), zh1_o S d (show (50 : Nat) ≠ 14 by omega), zh1_o S d (show (0 : Nat) ≠ 14 by omega), zh1_o S d (show (53 : Nat) ≠ 14 by omega)]
  intro n
  induction n with
  | zero => rfl
  | succ n ih =>
    unfold zbest2 zbest zalw zdue
    rw [ih, ht, h14, zh1_o S d (show (40 : Nat) ≠ 14 by omega), zh1_o S d (show (47 : Nat) ≠ 14 by omega), zh1_o S d (show (0 : Nat) ≠ 14 by omega), zh1_o S d (show (54 : Nat) ≠ 14 by omega), zh1_o S d (show (41 : Nat) ≠ 14 by omega), zh1_o S d (show (48 : Nat) ≠ 14 by omega), zh1_o S d (show (46 : Nat) ≠ 14 by omega), zh1_o S d (show (43 : Nat) ≠ 14 by omega), zh1_o S d (show (44 : Nat) ≠ 14 by omega), zh1_o S d (show (45 : Nat) ≠ 14 by omega)]
theorem zbest_al {d p c : Nat} : ∀ n, (zbest S d p n).1 = c + 1 → c < n ∧ zalw S d c = true := by
  intro n
  induction n with
  | zero => intro h; cases h
  | succ n ih =>
    intro h
    unfold zbest at h
    by_cases z : S 40 n 0 = p ∧ (zbest S d p n).2 + S 47 n 0 < zdue S n (S 0 0 0) ∧ zalw S d n = true
    · rw [if_pos z] at h
      have h : n + 1 = c + 1 := h
      have : c = n := by omega
      subst this
      exact ⟨by omega, z.2.2⟩
    · rw [if_neg z] at h
      have := ih h
      exact ⟨by omega, this.2⟩
/-- what a part's adding does, field by field -/
theorem zadd_e (S : zS) (d i j : Nat) : (zadd S d i j 17 d 0 = S 17 d 0 + 1 ∧ zadd S d i j 51 d 0 = S 51 d 0 + zlen S d i j ∧ zadd S d i j 55 d (S 17 d 0) = j ∧ zadd S d i j 56 d (S 17 d 0) = S 51 d 0 ∧ zadd S d i j 57 d (S 17 d 0) = S 51 d 0 + zlen S d i j ∧ zadd S d i j 58 d (S 17 d 0) = zadc S d i j ∧ zadd S d i j 53 d 0 = (if zadc S d i j = 0 then S 53 d 0 else S 53 d 0 ||| 2 ^ (zadc S d i j - 1)) ∧ zadd S d i j 54 d 0 = (if zadc S d i j = 0 then S 54 d 0 else S 54 d 0 ||| 2 ^ (S 41 (zadc S d i j - 1) 0)) ∧ ∀ c, zadd S d i j 47 c 0 = if zadc S d i j = c + 1 then S 47 c 0 + 1 else S 47 c 0) ∧ (∀ f e, f ≠ 47 → e ≠ d → zadd S d i j f e = S f e) ∧ (∀ f k, f = 55 ∨ f = 56 ∨ f = 57 ∨ f = 58 → k ≠ S 17 d 0 → zadd S d i j f d k = S f d k) := by
  have hp : ∀ (S1 : zS) len c, (zpiece S1 d j len c 55 d (S1 17 d 0) = j ∧ zpiece S1 d j len c 56 d (S1 17 d 0) = S1 51 d 0 ∧ zpiece S1 d j len c 57 d (S1 17 d 0) = S1 51 d 0 + len ∧ zpiece S1 d j len c 58 d (S1 17 d 0) = c) ∧ (∀ f e, e ≠ d → zpiece S1 d j len c f e = S1 f e) ∧ (∀ f k, f = 55 ∨ f = 56 ∨ f = 57 ∨ f = 58 → k ≠ S1 17 d 0 → zpiece S1 d j len c f d k = S1 f d k) := fun S1 len c => by
    unfold zpiece zpn
    refine ⟨⟨?_, ?_, ?_, ?_⟩, fun f e he => ?_, fun f k hf hk => ?_⟩
    · rw [zup_o _ (by omega), zup_o _ (by omega), zup_o _ (by omega), zup_o _ (by omega), zup_o _ (by omega), zup_s]
    · rw [zup_o _ (by omega), zup_o _ (by omega), zup_o _ (by omega), zup_o _ (by omega), zup_s]
    · rw [zup_o _ (by omega), zup_o _ (by omega), zup_o _ (by omega), zup_s]
    · rw [zup_o _ (by omega), zup_o _ (by omega), zup_s]
    · funext m
      rw [zup_n _ (fun z => he z.2.1), zup_n _ (fun z => he z.2.1), zup_n _ (fun z => he z.2.1), zup_n _ (fun z => he z.2.1), zup_n _ (fun z => he z.2.1), zup_n _ (fun z => he z.2.1)]
    · rw [zup_o _ (by omega), zup_o _ (by omega), zup_n _ (fun z => hk z.2.2), zup_n _ (fun z => hk z.2.2), zup_n _ (fun z => hk z.2.2), zup_n _ (fun z => hk z.2.2)]
  have h17 := zadd_17 S d i j
  have h51 := zadd_51 S d i j
  unfold zlen at *
  by_cases z : zadc S d i j = 0
  · have e : zadd S d i j = zpiece S d j (S 31 i j) 0 := if_pos z
    rw [if_pos z] at h51
    rw [e] at h17 h51 ⊢
    obtain ⟨⟨q1, q2, q3, q4⟩, q5, q6⟩ := hp S (S 31 i j) 0
    rw [z]
    refine ⟨⟨h17, h51, q1, q2, q3, q4, ?_, ?_, fun c => ?_⟩, fun f e _ he => q5 f e he, q6⟩
    · rw [if_pos rfl]
      unfold zpiece
      rw [zup_o _ (by omega), zpn_o _ _ _ _ _ _ (by omega) (by omega) (by omega) (by omega) (by omega)]
    · rw [if_pos rfl]
      unfold zpiece
      rw [zup_o _ (by omega), zpn_o _ _ _ _ _ _ (by omega) (by omega) (by omega) (by omega) (by omega)]
    · rw [if_neg (by omega), zpiece_o _ _ _ _ _ (by omega) (by omega) (by omega)]
  · have e : zadd S d i j = zpiece (zput S d (zadc S d i j - 1)) d j (S 42 (zadc S d i j - 1) 0) (zadc S d i j) := if_neg z
    rw [if_neg z] at h51
    rw [e] at h17 h51 ⊢
    obtain ⟨⟨q1, q2, q3, q4⟩, q5, q6⟩ := hp (zput S d (zadc S d i j - 1)) (S 42 (zadc S d i j - 1) 0) (zadc S d i j)
    rw [zput_o _ _ _ (show (17 : Nat) ≠ 47 by omega) (by omega) (by omega)] at q1 q2 q3 q4 q6
    rw [zput_o _ _ _ (show (51 : Nat) ≠ 47 by omega) (by omega) (by omega)] at q2 q3
    rw [if_neg z]
    refine ⟨⟨h17, h51, q1, q2, q3, q4, ?_, ?_, fun c => ?_⟩, fun f e hf he => ?_, fun f k hf hk => ?_⟩
    · rw [if_neg z]
      unfold zpiece
      rw [zup_o _ (by omega), zpn_o _ _ _ _ _ _ (by omega) (by omega) (by omega) (by omega) (by omega)]
      unfold zput
      rw [zup_o _ (by omega), zup_s]
    · rw [if_neg z]
      unfold zpiece
      rw [zup_o _ (by omega), zpn_o _ _ _ _ _ _ (by omega) (by omega) (by omega) (by omega) (by omega)]
      exact zup_s _ _ _ _ _
    · rw [zpiece_o _ _ _ _ _ (by omega) (by omega) (by omega)]
      unfold zput
      rw [zup_o _ (by omega), zup_o _ (by omega)]
      by_cases y : zadc S d i j = c + 1
      · rw [if_pos y, y, Nat.add_sub_cancel, zup_s]
      · rw [if_neg y, zup_n _ (fun w => y (by omega))]
    · rw [q5 f e he]
      unfold zput
      funext m
      rw [zup_n _ (fun w => he w.2.1), zup_n _ (fun w => he w.2.1), zup_o _ hf]
    · rw [q6 f k hf hk, zput_o _ _ _ (by omega) (by omega) (by omega)]
end ZSG
