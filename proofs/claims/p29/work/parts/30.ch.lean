/-! THE CLASS (8): stores into fields -/
section ZCH
variable {G : za_G} {A : zA} {B : zB} {S : zS} {T : zT} {r0 : za_H} {i j v : Nat}
theorem zst_33 (hf : zF A) (hv : zV A (1, i, j)) : za_up (zmk A B S T r0) (A.1 (1, i, j)) (.inr (3, [.int (nI (S 30 i j)), .int (nI (S 31 i j)), .int (z1 (S 32 i j)), .int (nI v), .int (nI (S 34 i j))])) = zmk A B (zup S 33 i j v) T r0 := zst hf (f := 33) hv (by rw [show zkd 33 = 1 from rfl, zc_1]; simp [zup])
theorem zst_34 (hf : zF A) (hv : zV A (1, i, j)) : za_up (zmk A B S T r0) (A.1 (1, i, j)) (.inr (3, [.int (nI (S 30 i j)), .int (nI (S 31 i j)), .int (z1 (S 32 i j)), .int (nI (S 33 i j)), .int (nI v)])) = zmk A B (zup S 34 i j v) T r0 := zst hf (f := 34) hv (by rw [show zkd 34 = 1 from rfl, zc_1]; simp [zup])
theorem zst_37 (hf : zF A) (hv : zV A (2, i, j)) : za_up (zmk A B S T r0) (A.1 (2, i, j)) (.inr (2, [.int (nI i), .int (nI (S 35 i j)), .int (nI (S 36 i j)), .ref (B.1 2 i j), .int (nI v)])) = zmk A B (zup S 37 i j v) T r0 := zst hf (f := 37) hv (by rw [show zkd 37 = 2 from rfl, zc_2]; simp [zup])
theorem zst_39 (hf : zF A) (hv : zV A (3, i, j)) : za_up (zmk A B S T r0) (A.1 (3, i, j)) (.inr (1, [.int (nI (S 38 i j)), .ref (B.1 3 i j), .int (nI v)])) = zmk A B (zup S 39 i j v) T r0 := zst hf (f := 39) hv (by rw [show zkd 39 = 3 from rfl, zc_3]; simp [zup])
theorem zst_0 (hf : zF A) (hv : zV A (0, 0, 0)) : za_up (zmk A B S T r0) (A.1 (0, 0, 0)) (.inr (4, [.ref (B.1 0 10 0), .ref (B.1 0 11 0), .ref (B.1 0 12 0), .ref (B.1 0 13 0), .ref (B.1 0 14 0), .ref (B.1 1 0 0), .int (nI v), .int (nI (S 1 0 0)), .int (nI (S 2 0 0)), .int (nI (S 3 0 0))])) = zmk A B (zup S 0 0 0 v) T r0 := zst hf (f := 0) (i := 0) (j := 0) hv (by rw [show zkd 0 = 0 from rfl, zc_0]; simp [zup])
theorem zst_1 (hf : zF A) (hv : zV A (0, 0, 0)) : za_up (zmk A B S T r0) (A.1 (0, 0, 0)) (.inr (4, [.ref (B.1 0 10 0), .ref (B.1 0 11 0), .ref (B.1 0 12 0), .ref (B.1 0 13 0), .ref (B.1 0 14 0), .ref (B.1 1 0 0), .int (nI (S 0 0 0)), .int (nI v), .int (nI (S 2 0 0)), .int (nI (S 3 0 0))])) = zmk A B (zup S 1 0 0 v) T r0 := zst hf (f := 1) (i := 0) (j := 0) hv (by rw [show zkd 1 = 0 from rfl, zc_0]; simp [zup])
theorem zst_2 (hf : zF A) (hv : zV A (0, 0, 0)) : za_up (zmk A B S T r0) (A.1 (0, 0, 0)) (.inr (4, [.ref (B.1 0 10 0), .ref (B.1 0 11 0), .ref (B.1 0 12 0), .ref (B.1 0 13 0), .ref (B.1 0 14 0), .ref (B.1 1 0 0), .int (nI (S 0 0 0)), .int (nI (S 1 0 0)), .int (nI v), .int (nI (S 3 0 0))])) = zmk A B (zup S 2 0 0 v) T r0 := zst hf (f := 2) (i := 0) (j := 0) hv (by rw [show zkd 2 = 0 from rfl, zc_0]; simp [zup])
theorem zst_3 (hf : zF A) (hv : zV A (0, 0, 0)) : za_up (zmk A B S T r0) (A.1 (0, 0, 0)) (.inr (4, [.ref (B.1 0 10 0), .ref (B.1 0 11 0), .ref (B.1 0 12 0), .ref (B.1 0 13 0), .ref (B.1 0 14 0), .ref (B.1 1 0 0), .int (nI (S 0 0 0)), .int (nI (S 1 0 0)), .int (nI (S 2 0 0)), .int (nI v)])) = zmk A B (zup S 3 0 0 v) T r0 := zst hf (f := 3) (i := 0) (j := 0) hv (by rw [show zkd 3 = 0 from rfl, zc_0]; simp [zup])
theorem zI_S {S' : zS} (I : zI G A B S r0) (e : ∀ f, 4 ≤ f → f ≤ 29 → S' f = S f) (e49 : S' 49 = S 49) (e55 : S' 55 = S 55) : zI G A B S' r0 := by
  obtain ⟨J, C⟩ := I
  have lv : ∀ x y z, zLv S' x y z = zLv S x y z := by
    intro x y z
    unfold zLv
    rw [e 10 (by omega) (by omega), e 12 (by omega) (by omega), e 13 (by omega) (by omega), e 15 (by omega) (by omega), e 17 (by omega) (by omega), e 18 (by omega) (by omega), e 19 (by omega) (by omega)]
  have lb : ∀ k i', zLb S' k i' = zLb S k i' := by
    intro k i'
    unfold zLb
    rw [e 10 (by omega) (by omega), e 12 (by omega) (by omega), e 19 (by omega) (by omega)]
  have le : ∀ k i j, zel S' k i j = zel S k i j := by
    intro k i j
    unfold zel
    rw [e 20 (by omega) (by omega), e 21 (by omega) (by omega)]
  refine ⟨⟨J.f, J.n, J.x, fun x y z x1 x7 p => by rw [lv] at p; exact J.v p x1 x7, fun k i p => ?_, ?_, ?_⟩, fun x y z x1 x7 p => by rw [lv]; exact C x y z x1 x7 p⟩
  · rw [lb] at p
    have hk := zLb_k p
    obtain ⟨l1, l2, l3, l4, l5, l6⟩ := J.l p
    refine ⟨l1, by rw [e k (by omega) (by omega)]; exact l2, l3, l4, l5, fun j hj => ?_⟩
    rw [e k (by omega) (by omega)] at hj
    rw [le]
    exact l6 j hj
  · obtain ⟨t1, t2, t3, t4, t5⟩ := J.r
    unfold zRf
    rw [e 10 (by omega) (by omega), e 12 (by omega) (by omega), e 17 (by omega) (by omega), e 19 (by omega) (by omega), e49, e55]
    exact ⟨t1, t2, t3, t4, fun d hd => ⟨(t5 d hd).1, (t5 d hd).2.1, fun k hk => ⟨((t5 d hd).2.2 k hk).1, by rw [lv]; exact ((t5 d hd).2.2 k hk).2⟩⟩⟩
  · rw [e 14 (by omega) (by omega), e 19 (by omega) (by omega)]; exact J.p
theorem zI_zup (I : zI G A B S r0) {f : Nat} (h : f ≤ 3 ∨ 30 ≤ f ∧ f ≠ 49 ∧ f ≠ 55) : zI G A B (zup S f i j v) r0 :=
  zI_S I (fun g a b => zup_o S (by omega)) (zup_o S (by omega)) (zup_o S (by omega))
theorem zH_zup (h : zH S) {f : Nat} (hv : v < 1048576) : zH (zup S f i j v) := fun f' i' j' => by
  unfold zup
  split
  · exact hv
  · exact h f' i' j'
theorem zcost_zup {f k i' : Nat} (h : f ≠ k) : zcost B (zup S f i j v) k i' = zcost B S k i' := by
  unfold zcost
  rw [zup_o S (fun z => h z.symm)]
end ZCH
