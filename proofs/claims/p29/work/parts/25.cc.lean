/-! THE CLASS (3): how the state goes on when an object takes a role, and when a list has an element more -/
/-- what is not of the class stays where it is -/
def zX (A : zA) (B : zB) (A' : zA) (B' : zB) : Prop := (∀ r : zQ, r.1 = 0 ∨ 19 ≤ r.1 → A'.1 r = A.1 r ∧ (zV A r → zV A' r)) ∧ B'.1 10 = B.1 10 ∧ B'.1 11 = B.1 11 ∧ ∀ r : zQ, 1 ≤ r.1 → r.1 ≤ 7 → zV A r → A'.1 r = A.1 r ∧ zV A' r
theorem zX.rf (A : zA) (B : zB) : zX A B A B := ⟨fun _ _ => ⟨rfl, id⟩, rfl, rfl, fun _ _ _ h => ⟨rfl, h⟩⟩
theorem zX.tr {A A' A2 : zA} {B B' B2 : zB} (h : zX A B A' B') (h' : zX A' B' A2 B2) : zX A B A2 B2 := ⟨fun r q => ⟨((h'.1 r q).1).trans (h.1 r q).1, fun z => (h'.1 r q).2 ((h.1 r q).2 z)⟩, h'.2.1.trans h.2.1, h'.2.2.1.trans h.2.2.1, fun r a b z => ⟨((h'.2.2.2 r a b (h.2.2.2 r a b z).2).1).trans (h.2.2.2 r a b z).1, (h'.2.2.2 r a b (h.2.2.2 r a b z).2).2⟩⟩
section ZCC
variable {G : za_G} {A A' : zA} {B B' : zB} {S S' S1 : zS} {T : zT} {r0 r0' : za_H}
theorem zLv_S (h : ∀ f, f ≤ 29 → S1 f = S f) (k i j : Nat) : zLv S1 k i j = zLv S k i j := by
  unfold zLv
  rw [h 10 (by omega), h 12 (by omega), h 13 (by omega), h 15 (by omega), h 17 (by omega), h 18 (by omega), h 19 (by omega)]
theorem zLb_S (h : ∀ f, f ≤ 29 → S1 f = S f) (k i : Nat) : zLb S1 k i = zLb S k i := by
  unfold zLb
  rw [h 10 (by omega), h 12 (by omega), h 19 (by omega)]
theorem zel_S (h : ∀ f, f ≤ 29 → S1 f = S f) (k i j : Nat) : zel S1 k i j = zel S k i j := by
  unfold zel
  rw [h 20 (by omega), h 21 (by omega)]
theorem zLb_k {k i : Nat} (h : zLb S k i) : 10 ≤ k ∧ k ≤ 18 := by
  unfold zLb at h
  split at h <;> first | exact h.elim | omega
theorem zel_7 (S : zS) (k i j : Nat) : 1 ≤ (zel S k i j).1 ∧ (zel S k i j).1 ≤ 7 := by
  unfold zel
  split <;> simp
theorem zJ_ad (I : zJ G A B S r0) (C : zC A S (fun _ => False)) {a b c q : Nat} (h1 : 1 ≤ a) (h7 : a ≤ 7) (hnl : ¬ zLv S a b c) (hq : A.2 q = none) (hqt : q ≠ G.t) (e : ∀ f, f ≤ 29 → S1 f = S f) (hR : ∀ d, d < S 19 0 0 → S1 49 d 0 = S 49 d 0 ∧ ∀ k, k < S 17 d 0 → S1 55 d k = S 55 d k) (x : za_E) :
    zJ G (zad A (a, b, c) q) B S1 (zr0 A (a, b, c) x r0) ∧ zC (zad A (a, b, c) q) S1 (fun r => r = (a, b, c)) ∧ zV (zad A (a, b, c) q) (a, b, c) ∧ (∀ r', r' ≠ (a, b, c) → (zad A (a, b, c) q).1 r' = A.1 r' ∧ (zV (zad A (a, b, c) q) r' ↔ zV A r')) := by
  have hno : ¬ zV A (a, b, c) := fun z => (C a b c h1 h7 z).elim hnl id
  have ho : ∀ r', r' ≠ (a, b, c) → (zad A (a, b, c) q).1 r' = A.1 r' ∧ (zV (zad A (a, b, c) q) r' ↔ zV A r') := fun r' n => ⟨zad_n _ _ n, zad_Vn hq n⟩
  have hv : ∀ r', zV A r' → r' ≠ (a, b, c) := fun r' z y => hno (by rw [← y]; exact z)
  have hk : ∀ k i j, 8 ≤ k → ((k, i, j) : zQ) ≠ (a, b, c) := fun k i j z y => by cases y; omega
  refine ⟨⟨zad_F I.f _ _, ⟨zad_no I.n.1 hqt.symm, by rw [zr0_no I.n.1]; exact I.n.2⟩, ?_, ?_, ?_, ?_, ?_⟩, ?_, zad_V _ _ _, ho⟩
  · exact (ho _ (fun y => by cases y; omega)).2.mpr I.x
  · intro k i j k1 k7 hl
    rw [zLv_S e] at hl
    have z := I.v hl k1 k7
    exact (ho _ (hv _ z)).2.mpr z
  · intro k i hl
    rw [zLb_S e] at hl
    obtain ⟨l1, l2, l3, l4, l5, l6⟩ := I.l hl
    have k10 := zLb_k hl
    refine ⟨(ho _ (hk k i 0 (by omega))).2.mpr l1, ?_, l3, l4, fun z => ?_, fun j hj => ?_⟩
    · rw [e k (by omega)]; exact l2
    · rw [(ho _ (hk k i 1 (by omega))).2, (ho _ (hk k i 1 (by omega))).1]; exact l5 z
    · rw [e k (by omega)] at hj
      obtain ⟨m1, m2⟩ := l6 j hj
      rw [zel_S e, (ho _ (hv _ m2)).1, (ho _ (hv _ m2)).2]
      exact ⟨m1, m2⟩
  · obtain ⟨t1, t2, t3, t4, t5⟩ := I.r
    refine ⟨fun k a1 a2 => ?_, ?_, fun i hi => ?_, fun i hi => ?_, fun d hd => ?_⟩
    · rw [(ho _ (hk k 0 0 (by omega))).1]; exact t1 k a1 a2
    · rw [e 10 (by omega), (ho _ (hk 15 _ 0 (by omega))).1]; exact t2
    · rw [(ho _ (hk 15 _ 0 (by omega))).1]; exact t3 i (by rw [e 10 (by omega)] at hi; exact hi)
    · rw [(ho _ (hk 16 _ 0 (by omega))).1]; exact t4 i (by rw [e 12 (by omega)] at hi; exact hi)
    · rw [e 19 (by omega)] at hd
      obtain ⟨u1, u2, u3⟩ := t5 d hd
      obtain ⟨v1, v2⟩ := hR d hd
      rw [(ho _ (hk 17 _ 0 (by omega))).1, (ho _ (hk 18 _ 0 (by omega))).1]
      refine ⟨u1, u2, fun k hk9 => ?_⟩
      rw [e 17 (by omega)] at hk9
      obtain ⟨w1, w2⟩ := u3 k hk9
      rw [v1, v2 k hk9, zLv_S e, w1, (ho _ (hv _ (I.v w2))).1]
      exact ⟨rfl, w2⟩
  · rw [e 14 (by omega), e 19 (by omega)]; exact I.p
  · intro k i j k1 k7 hz
    rw [zLv_S e]
    by_cases y : ((k, i, j) : zQ) = (a, b, c)
    · exact Or.inr y
    · exact Or.inl ((C k i j k1 k7 ((ho _ y).2.mp hz)).elim id (fun z => z.elim))
/-- over a list's adding -/
theorem zJ_add (I : zJ G A B S r0) {k i b cap : Nat} {f : Nat → Option Nat} {m : Int32} (hk : 10 ≤ k ∧ k ≤ 18) (hf : zF A') (hN : zN G A' r0') (hL : zL G.t A' (zBu B k i b cap f m) S' k i) (hA : ∀ r', r' ≠ (k, i, 1) → A'.1 r' = A.1 r' ∧ (zV A' r' ↔ zV A r'))
    (hlb : ∀ k' i', zLb S' k' i' → ¬ (k' = k ∧ i' = i) → zLb S k' i' ∧ S' k' i' 0 = S k' i' 0 ∧ ∀ j, j < S k' i' 0 → zel S' k' i' j = zel S k' i' j) (hlv : ∀ a b c, 1 ≤ a → a ≤ 7 → zLv S' a b c → zV A (a, b, c)) (hrf : zRf A B S') (hp : S' 14 0 0 ≤ S' 19 0 0) : zJ G A' (zBu B k i b cap f m) S' r0' ∧ zX A B A' (zBu B k i b cap f m) := by
  have hk7 : ∀ a b c, a ≤ 7 → ((a, b, c) : zQ) ≠ (k, i, 1) := fun a b c z y => by cases y; omega
  have hk0 : ∀ a b, ((a, b, 0) : zQ) ≠ (k, i, 1) := fun a b y => by cases y
  refine ⟨⟨hf, hN, (hA _ (hk0 _ _)).2.mpr I.x, fun a b c a1 a7 q => (hA _ (hk7 a b c a7)).2.mpr (hlv a b c a1 a7 q), ?_, ?_, hp⟩, ?_, ?_, ?_, ?_⟩
  · intro k' i' q
    by_cases z : k' = k ∧ i' = i
    · obtain ⟨rfl, rfl⟩ := z; exact hL
    · obtain ⟨q1, q2, q3⟩ := hlb k' i' q z
      obtain ⟨l1, l2, l3, l4, l5, l6⟩ := I.l q1
      have e7 := (zBu_n (B := B) (b := b) (cap := cap) (f := f) (m := m) (f' := 7) z)
      have e8 := (zBu_n (B := B) (b := b) (cap := cap) (f := f) (m := m) (f' := 8) z)
      have hn1 : ((k', i', 1) : zQ) ≠ (k, i, 1) := fun y => by cases y; exact z ⟨rfl, rfl⟩
      refine ⟨(hA _ (hk0 _ _)).2.mpr l1, ?_, ?_, ?_, ?_, fun j hj => ?_⟩
      · rw [q2, e8.1]; exact l2
      · rw [e8.1]; exact l3
      · rw [e8.1, e7.1]; exact l4
      · rw [e8.1, e7.1, (hA _ hn1).1, (hA _ hn1).2]; exact l5
      · rw [q2] at hj
        obtain ⟨m1, m2⟩ := l6 j hj
        have hz := zel_7 S k' i' j
        have hne : zel S k' i' j ≠ (k, i, 1) := fun y => by rw [y] at hz; have := hz.2; simp at this; omega
        rw [q3 j hj, e7.2.1, (hA _ hne).1, (hA _ hne).2]
        exact ⟨m1, m2⟩
  · have u : ∀ x, x ≠ 7 → x ≠ 8 → (zBu B k i b cap f m).1 x = B.1 x := fun x a1 a2 => zBu_1 a1 a2
    obtain ⟨t1, t2, t3, t4, t5⟩ := hrf
    refine ⟨fun k a1 a2 => ?_, ?_, fun i hi => ?_, fun i hi => ?_, fun d hd => ?_⟩
    · rw [u 0 (by decide) (by decide), (hA _ (hk0 _ _)).1]; exact t1 k a1 a2
    · rw [u 1 (by decide) (by decide), (hA _ (hk0 _ _)).1]; exact t2
    · rw [u 2 (by decide) (by decide), (hA _ (hk0 _ _)).1]; exact t3 i hi
    · rw [u 3 (by decide) (by decide), (hA _ (hk0 _ _)).1]; exact t4 i hi
    · obtain ⟨u1, u2, u3⟩ := t5 d hd
      rw [u 4 (by decide) (by decide), u 5 (by decide) (by decide), u 6 (by decide) (by decide), (hA _ (hk0 _ _)).1, (hA _ (hk0 _ _)).1]
      refine ⟨u1, u2, fun k hk9 => ?_⟩
      rw [(hA _ (hk7 1 _ _ (by omega))).1]
      exact u3 k hk9
  · intro r hr
    have hne : r ≠ (k, i, 1) := fun y => by subst y; rcases hr with q | q <;> simp at q <;> omega
    exact ⟨(hA r hne).1, (hA r hne).2.mpr⟩
  · exact zBu_1 (by decide) (by decide)
  · exact zBu_1 (by decide) (by decide)
  · intro r r1 r7 hv
    obtain ⟨x, y, z⟩ := r
    exact ⟨(hA _ (hk7 x y z r7)).1, (hA _ (hk7 x y z r7)).2.mpr hv⟩
theorem zC_add {k i : Nat} {P : zQ → Prop} (C : zC A S P) (hk : 10 ≤ k ∧ k ≤ 18) (hA : ∀ r', r' ≠ (k, i, 1) → A'.1 r' = A.1 r' ∧ (zV A' r' ↔ zV A r')) (h : ∀ a b c, zLv S a b c ∨ P (a, b, c) → zLv S' a b c) : zC A' S' (fun _ => False) := fun a b c a1 a7 z =>
  Or.inl (h a b c (C a b c a1 a7 ((hA _ (fun y => by cases y; omega)).2.mp z)))
end ZCC
