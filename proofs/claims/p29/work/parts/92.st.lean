/-! THE LAW (6): each call against the potential -/
section ZST6
variable {S S' : zS}
theorem zle1 {a b : Nat} (h : a = b) : a ≤ b + 1 := by omega
theorem zpot_ps (S : zS) : ∀ n, zpot (zps S n) = zpot S
  | 0 => rfl
  | h + 1 => by
    rw [← zpot_ps S h]
    obtain ⟨S1, e⟩ : ∃ S1, S1 = zup (zps S h) 0 0 0 (S 0 0 0 + h + 1) := ⟨_, rfl⟩
    have e1 : S1 0 0 0 = S 0 0 0 + h + 1 := by rw [e]; exact zup_s _ _ _ _ _
    have e2 : ∀ f, f ≠ 0 → S1 f = zps S h f := fun f hf => by rw [e]; exact zup_o _ hf
    have h10 : zps S h 10 = S 10 := zps_o S h (by omega) (by omega) (by omega)
    obtain ⟨r1, r2⟩ := zrl_p S1 (S 10 0 0)
    have r2 := r2 (S 0 0 0 + h) (by omega)
    have u1 : zun (zrl S1 (S 10 0 0)) (S 10 0 0) = zun S1 (S 10 0 0) := zun_o (by rw [r1 0 (by omega) (by omega)]) (fun i _ => by rw [r1 36 (by omega) (by omega)])
    have u2 : zun (zup S1 0 0 0 (S 0 0 0 + h)) (S 10 0 0) = zun (zps S h) (S 10 0 0) := zun_o (by rw [zup_s, zps_0]) (fun i _ => by rw [zup_o _ (by omega), e2 36 (by omega)])
    show zpot (zrl (zup (zps S h) 0 0 0 (S 0 0 0 + h + 1)) (S 10 0 0)) = _
    rw [← e]
    unfold zpot
    rw [r1 10 (by omega) (by omega), r1 1 (by omega) (by omega), e2 10 (by omega), e2 1 (by omega), h10, u1]
    rw [u2, e2 11 (by omega)] at r2
    omega
theorem zpot_sq (h10 : S 10 0 0 ≤ 24) {n : Nat} (hn : n < 10) (hb : (S 1 0 0).testBit n = false) : zpot (zsq (zup S 1 0 0 (S 1 0 0 ||| 2 ^ n)) (S 10 0 0)) ≤ zpot S := by
  have p := zpc_up hb 10
  have q := zpc_le (S 1 0 0 ||| 2 ^ n) 10
  have r := zsq_11 (zup S 1 0 0 (S 1 0 0 ||| 2 ^ n)) (S 10 0 0)
  have o : ∀ f, f ≠ 33 → f ≠ 37 → f ≠ 20 → f ≠ 11 → zsq (zup S 1 0 0 (S 1 0 0 ||| 2 ^ n)) (S 10 0 0) f = zup S 1 0 0 (S 1 0 0 ||| 2 ^ n) f := fun f => zsq_o _ _
  have u : zun (zsq (zup S 1 0 0 (S 1 0 0 ||| 2 ^ n)) (S 10 0 0)) (S 10 0 0) = zun S (S 10 0 0) := zun_o (by rw [o 0 (by omega) (by omega) (by omega) (by omega), zup_o _ (by omega)]) (fun i _ => by rw [o 36 (by omega) (by omega) (by omega) (by omega), zup_o _ (by omega)])
  rw [if_pos hn] at p
  rw [zup_o _ (show (11 : Nat) ≠ 1 by omega)] at r
  unfold zpot
  rw [o 10 (by omega) (by omega) (by omega) (by omega), o 1 (by omega) (by omega) (by omega) (by omega), zup_o _ (show (10 : Nat) ≠ 1 by omega), zup_s, u]
  omega
theorem zpot_item (S : zS) (m n : Nat) : zpot (znote (zcut (zitem S m n) (S 10 0 0)) (S 10 0 0)) ≤ zpot S + 1 := by
  obtain ⟨S2, e⟩ : ∃ S2, S2 = zcut (zitem S m n) (S 10 0 0) := ⟨_, rfl⟩
  have o : ∀ f, f ≠ 33 → f ≠ 37 → f ≠ 35 → f ≠ 36 → f ≠ 15 → f ≠ 10 → S2 f = S f := fun f h1 h2 h3 h4 h5 h6 => by rw [e, zcut_o _ _ h1 h2, zitem_o _ _ _ h3 h4 h2 h5 h6]
  have e10 : S2 10 0 0 = S 10 0 0 + 1 := by rw [e, zcut_o _ _ (by omega) (by omega)]; exact zup_s _ _ _ _ _
  have e36 : S2 36 (S 10 0 0) 0 = n := by
    rw [e, zcut_o _ _ (by omega) (by omega)]
    unfold zitem
    rw [zup_o _ (by omega), zup_o _ (by omega), zup_o _ (by omega), zup_s]
  have n36 : ∀ i, i < S 10 0 0 → S2 36 i 0 = S 36 i 0 := fun i hi => by
    rw [e, zcut_o _ _ (by omega) (by omega)]
    unfold zitem
    rw [zup_o _ (by omega), zup_o _ (by omega), zup_o _ (by omega), zup_n _ (by omega), zup_o _ (by omega)]
  rw [← e]
  obtain ⟨h1, h2, h3⟩ := znote_p S2 (S 10 0 0)
  have e0 : S2 0 = S 0 := o 0 (by omega) (by omega) (by omega) (by omega) (by omega) (by omega)
  have e1 : S2 1 = S 1 := o 1 (by omega) (by omega) (by omega) (by omega) (by omega) (by omega)
  have e11 : S2 11 = S 11 := o 11 (by omega) (by omega) (by omega) (by omega) (by omega) (by omega)
  have u : zun (znote S2 (S 10 0 0)) (S 10 0 0) = zun S (S 10 0 0) := zun_o (by rw [h1 0 (by omega) (by omega), e0]) (fun i hi => by rw [h1 36 (by omega) (by omega), n36 i hi])
  rw [e36, e0, e11] at h3
  rw [e11] at h2
  unfold zpot
  rw [h1 10 (by omega) (by omega), h1 1 (by omega) (by omega), e10, e1]
  rw [show zun (znote S2 (S 10 0 0)) (S 10 0 0 + 1) = zun (znote S2 (S 10 0 0)) (S 10 0 0) + (if znote S2 (S 10 0 0) 0 0 0 < znote S2 (S 10 0 0) 36 (S 10 0 0) 0 then 1 else 0) from rfl, u, h1 0 (by omega) (by omega), e0, h1 36 (by omega) (by omega), e36]
  by_cases z : S 0 0 0 < n
  · rw [if_pos z, h3 z]; omega
  · rw [if_neg z]; omega
theorem zp_up (S : zS) {f : Nat} (i j v k : Nat) (hf : f = 33 ∨ f = 37) : zpot (znote (zup S f i j v) k) ≤ zpot S + 1 :=
  Nat.le_trans (zpot_note _ _) (Nat.le_of_eq (by rw [zpot_o (S' := zup S f i j v) (S := S) (zup_o _ (by omega)) (zup_o _ (by omega)) (zup_o _ (by omega)) (zup_o _ (by omega)) (zup_o _ (by omega))]))
end ZST6
