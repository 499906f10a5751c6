/-! THE CLASS (16): a new object into a list (campaigns, parts, log) -/
section ZCP
variable {G : za_G} {A : zA} {B : zB} {S : zS} {T : zT} {r0 : za_H}
theorem zC_add7 {A' : zA} {S' : zS} {k i : Nat} {P : zQ → Prop} (C : zC A S P) (hA : ∀ r', r' ≠ (k, i, 1) → A'.1 r' = A.1 r' ∧ (zV A' r' ↔ zV A r')) (hk : 10 ≤ k) (h : ∀ a b c, 1 ≤ a → a ≤ 7 → zLv S a b c ∨ P (a, b, c) → zLv S' a b c) : zC A' S' (fun _ => False) := fun a b c a1 a7 z =>
  Or.inl (h a b c a1 a7 (C a b c a1 a7 ((hA _ (fun y => by cases y; omega)).2.mp z)))
theorem p_new (F : za_F G) (I : zI G A B S r0) {k i : Nat} (hk : k = 13 ∨ k = 15 ∨ k = 18) (hlb : zLb S k i) (hn : S k i 0 ≤ 1000) {v : Nat} (hv : A.2 v = none) (hvt : v ≠ G.t) {S1 : zS} (e : ∀ f, f ≤ 29 → S1 f = S f) (hR : ∀ d, d < S 19 0 0 → S1 49 d 0 = S 49 d 0 ∧ ∀ k, k < S 17 d 0 → S1 55 d k = S 55 d k) (ho : ∀ r', r' ≠ zel S k i (S k i 0) → zcon B S1 T r' = zcon B S T r') (h0 : r0 v = some (zcon B S1 T (zel S k i (S k i 0)))) (K : za_O → za_H → Prop)
    (q : ∀ A' B' r0', zX A B A' B' → zI G A' B' (zup S1 k i 0 (S k i 0 + 1)) r0' → A'.1 (zel S k i (S k i 0)) = v → (∀ r', r' ≠ zel S k i (S k i 0) → r' ≠ (k, i, 1) → A'.1 r' = A.1 r') → K (.inl (some (.int (nI 1)))) (zmk A' B' (zup S1 k i 0 (S k i 0 + 1)) T r0')) : za_P G mJx4a65c_add_9ea2d [.ref (A.1 (k, i, 0)), .ref v] (zmk A B S T r0) 1 (zcost B S k i) K := by
  obtain ⟨J, C⟩ := I
  have hk18 : 10 ≤ k ∧ k ≤ 18 := by omega
  generalize hr : zel S k i (S k i 0) = r at *
  have hr7 := zel_7 S k i (S k i 0)
  rw [hr] at hr7
  obtain ⟨a, b, c⟩ := r
  have hnl : ¬ zLv S a b c := by
    rcases hk with rfl | rfl | rfl
    · cases hr; exact fun z => by have := z.1; have hi : i = 0 := hlb; subst hi; omega
    · cases hr; exact fun z => by have := z.2; omega
    · cases hr; exact fun z => by have := z.2; omega
  obtain ⟨J1, C1, V1, o1⟩ := zJ_ad (S1 := S1) J C (a := a) (b := b) (c := c) hr7.1 hr7.2 hnl hv hvt e hR (zcon B S T (a, b, c))
  rw [zmk_ad (r := (a, b, c)) (B' := B) (S' := S1) (T' := T) hv h0 ho]
  generalize zr0 A (a, b, c) (zcon B S T (a, b, c)) r0 = r1 at *
  have hv1 : (zad A (a, b, c) v).1 (a, b, c) = v := zad_s _ _ _
  generalize zad A (a, b, c) v = A1 at *
  have lb1 : ∀ k' i', zLb S1 k' i' = zLb S k' i' := zLb_S e
  have hl1 := J1.l (k := k) (i := i) (by rw [lb1]; exact hlb)
  have el : A1.1 (k, i, 0) = A.1 (k, i, 0) := (o1 _ (fun y => by cases y; omega)).1
  have ek : S1 k i 0 = S k i 0 := by rw [e k (by omega)]
  have ec : zcost B S1 k i = zcost B S k i := by unfold zcost; rw [ek]
  rw [show [Value.ref (A.1 (k, i, 0)), Value.ref v] = [Value.ref (A1.1 (k, i, 0)), Value.ref (A1.1 (a, b, c))] by rw [el, hv1], ← ec]
  have z1 : ∀ n j, zel (zup S1 k i 0 n) k i j = zel S k i j := by
    intro n j
    rcases hk with rfl | rfl | rfl <;> rfl
  obtain ⟨fs, hfs⟩ := zel_c B S1 S T k i (S k i 0)
  rw [hr] at hfs
  have zkk : zkd k = k := by rcases hk with rfl | rfl | rfl <;> rfl
  refine l_add (r := (a, b, c)) (S' := zup S1 k i 0 (S k i 0 + 1)) F J1.f J1.n hk18 hl1 V1 hfs (by rw [zup_s, ek]) (by rw [z1, ek, hr]) (fun j hj => by rw [z1, zel_S e]) (fun r' h0 h1 => zcon_zup (by rw [zkk]; exact h0)) (by rw [ek]; exact hn) K ?_
  intro A' B' r0' hf' hN' hL' hA' hB'
  obtain ⟨b', cap', f', m', rfl, hcap'⟩ := hB'
  have u : ∀ f, f ≠ k → zup S1 k i 0 (S k i 0 + 1) f = S1 f := fun f h => zup_o S1 h
  have uk : ∀ i', i' ≠ i → zup S1 k i 0 (S k i 0 + 1) k i' 0 = S1 k i' 0 := fun i' h => zup_n _ (fun z => h z.2.1)
  have us : zup S1 k i 0 (S k i 0 + 1) k i 0 = S k i 0 + 1 := zup_s _ _ _ _ _
  have lv : ∀ x y z, 1 ≤ x → x ≤ 7 → (zLv (zup S1 k i 0 (S k i 0 + 1)) x y z ↔ zLv S1 x y z ∨ ((x, y, z) : zQ) = (a, b, c)) := by
    intro x y z x1 x7
    rw [← hr]
    rcases hk with rfl | rfl | rfl
    · have hi : i = 0 := hlb
      subst hi
      show _ ↔ _ ∨ ((x, y, z) : zQ) = (4, S 13 0 0, 0)
      by_cases hx : x = 4
      · subst hx
        show (y < zup S1 13 0 0 (S 13 0 0 + 1) 13 0 0 ∧ z = 0) ↔ (y < S1 13 0 0 ∧ z = 0) ∨ _
        rw [us, ek]
        constructor
        · intro p
          by_cases hy : y = S 13 0 0
          · obtain ⟨p1, p2⟩ := p; subst hy p2; exact Or.inr rfl
          · exact Or.inl ⟨by omega, p.2⟩
        · intro p
          rcases p with p | p
          · exact ⟨by omega, p.2⟩
          · cases p; exact ⟨by omega, rfl⟩
      · have e9 : zLv (zup S1 13 0 0 (S 13 0 0 + 1)) x y z = zLv S1 x y z := by
          unfold zLv
          split
          all_goals first | exact absurd rfl hx | simp only [u 10 (by omega), u 12 (by omega), u 15 (by omega), u 17 (by omega), u 18 (by omega), u 19 (by omega)]
        rw [e9]
        exact ⟨Or.inl, fun p => p.elim id (fun p => by cases p; exact absurd rfl hx)⟩
    · show _ ↔ _ ∨ ((x, y, z) : zQ) = (1, i, S 15 i 0)
      have hi : i ≤ S 10 0 0 := hlb
      by_cases hx : x = 1
      · subst hx
        show (y ≤ zup S1 15 i 0 (S 15 i 0 + 1) 10 0 0 ∧ z < zup S1 15 i 0 (S 15 i 0 + 1) 15 y 0) ↔ (y ≤ S1 10 0 0 ∧ z < S1 15 y 0) ∨ _
        rw [u 10 (by omega), e 10 (by omega)]
        by_cases hy : y = i
        · subst hy
          rw [us, ek]
          constructor
          · intro p
            by_cases hz : z = S 15 y 0
            · subst hz; exact Or.inr rfl
            · exact Or.inl ⟨by omega, by omega⟩
          · intro p
            rcases p with p | p
            · exact ⟨by omega, by omega⟩
            · cases p; exact ⟨by omega, by omega⟩
        · rw [uk y hy]
          exact ⟨Or.inl, fun p => p.elim id (fun p => by cases p; exact absurd rfl hy)⟩
      · have e9 : zLv (zup S1 15 i 0 (S 15 i 0 + 1)) x y z = zLv S1 x y z := by
          unfold zLv
          split
          all_goals first | exact absurd rfl hx | simp only [u 10 (by omega), u 12 (by omega), u 13 (by omega), u 17 (by omega), u 18 (by omega), u 19 (by omega)]
        rw [e9]
        exact ⟨Or.inl, fun p => p.elim id (fun p => by cases p; exact absurd rfl hx)⟩
    · show _ ↔ _ ∨ ((x, y, z) : zQ) = (7, i, S 18 i 0)
      have hi : i < S 19 0 0 := hlb
      by_cases hx : x ≤ 6
      · have e9 : zLv (zup S1 18 i 0 (S 18 i 0 + 1)) x y z = zLv S1 x y z := by
          have : x = 1 ∨ x = 2 ∨ x = 3 ∨ x = 4 ∨ x = 5 ∨ x = 6 := by omega
          unfold zLv
          rcases this with rfl | rfl | rfl | rfl | rfl | rfl <;> simp only [u 10 (by omega), u 12 (by omega), u 13 (by omega), u 15 (by omega), u 17 (by omega), u 19 (by omega)]
        rw [e9]
        exact ⟨Or.inl, fun p => p.elim id (fun p => by cases p; omega)⟩
      · have hx7 : x = 7 := by omega
        subst hx7
        show (y < zup S1 18 i 0 (S 18 i 0 + 1) 19 0 0 ∧ z < zup S1 18 i 0 (S 18 i 0 + 1) 18 y 0) ↔ (y < S1 19 0 0 ∧ z < S1 18 y 0) ∨ _
        rw [u 19 (by omega), e 19 (by omega)]
        by_cases hy : y = i
        · subst hy
          rw [us, ek]
          constructor
          · intro p
            by_cases hz : z = S 18 y 0
            · subst hz; exact Or.inr rfl
            · exact Or.inl ⟨by omega, by omega⟩
          · intro p
            rcases p with p | p
            · exact ⟨by omega, by omega⟩
            · cases p; exact ⟨by omega, by omega⟩
        · rw [uk y hy]
          exact ⟨Or.inl, fun p => p.elim id (fun p => by cases p; exact absurd rfl hy)⟩
  have lb : ∀ k' i', zLb (zup S1 k i 0 (S k i 0 + 1)) k' i' = zLb S1 k' i' := by
    intro k' i'
    unfold zLb
    rw [u 10 (by omega), u 12 (by omega), u 19 (by omega)]
  obtain ⟨J2, X2⟩ := zJ_add (S' := zup S1 k i 0 (S k i 0 + 1)) J1 (k := k) (i := i) hk18 hf' hN' hL' hA' (fun k' i' p z => by
    rw [lb] at p
    refine ⟨p, zup_n _ (fun y => z ⟨y.1, y.2.1⟩), fun j hj => ?_⟩
    unfold zel
    rw [u 20 (by omega), u 21 (by omega)]) (fun x y z x1 x7 p => ((lv x y z x1 x7).mp p).elim (fun p => J1.v p x1 x7) (fun p => by rw [p]; exact V1)) (by
    obtain ⟨t1, t2, t3, t4, t5⟩ := J1.r
    unfold zRf
    rw [u 10 (by omega), u 12 (by omega), u 17 (by omega), u 19 (by omega), u 49 (by omega), u 55 (by omega)]
    exact ⟨t1, t2, t3, t4, fun d hd => ⟨(t5 d hd).1, (t5 d hd).2.1, fun k hk => ⟨((t5 d hd).2.2 k hk).1, (lv _ _ _ (by omega) (by omega)).mpr (Or.inl ((t5 d hd).2.2 k hk).2)⟩⟩⟩) (by rw [u 14 (by omega), u 19 (by omega)]; exact J1.p)
  have X1 : zX A B A1 B := ⟨fun r hr => ⟨(o1 r (fun y => by subst y; rcases hr with p | p <;> simp at p <;> omega)).1, (o1 r (fun y => by subst y; rcases hr with p | p <;> simp at p <;> omega)).2.mpr⟩, rfl, rfl, fun r r1 r7 hz => have hne : r ≠ (a, b, c) := fun y => (C a b c hr7.1 hr7.2 (by rw [← y]; exact hz)).elim hnl id; ⟨(o1 r hne).1, (o1 r hne).2.mpr hz⟩⟩
  exact q _ _ _ (X1.tr X2) ⟨J2, zC_add7 C1 hA' (by omega) (fun x y z x1 x7 p => (lv x y z x1 x7).mpr p)⟩ (by rw [(hA' _ (fun y => by cases y; omega)).1]; exact hv1) (fun r' a1 a2 => by rw [(hA' r' a2).1, (o1 r' a1).1])
end ZCP
