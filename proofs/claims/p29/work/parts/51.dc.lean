/-! THE CLASS (29): new objects of several roles at once -/
/-- the role r is given up -/
def zdr (A : zA) (r : zQ) : zA := (A.1, fun a => if A.2 a = some r then none else A.2 a)
/-- a ghost address -/
def zbu (B : zB) (f i j v : Nat) : zB := (fun f' i' j' => if f' = f ∧ i' = i ∧ j' = j then v else B.1 f' i' j', B.2)
theorem zbu_s (B : zB) (f i j v : Nat) : (zbu B f i j v).1 f i j = v := if_pos ⟨rfl, rfl, rfl⟩
theorem zbu_n (B : zB) {f i j v f' i' j' : Nat} (h : ¬ (f' = f ∧ i' = i ∧ j' = j)) : (zbu B f i j v).1 f' i' j' = B.1 f' i' j' := if_neg h
theorem zbu_o (B : zB) {f i j v f' : Nat} (h : f' ≠ f) : (zbu B f i j v).1 f' = B.1 f' := by
  funext i' j'
  exact zbu_n _ (fun z => h z.1)
/-- the kind of a role that a ghost address belongs to -/
def zbk (f : Nat) : Nat := if f = 1 then 0 else if f = 4 then 5 else f
theorem zcon_bu {B : zB} {S : zS} {T : zT} {f i j v : Nat} {r : zQ} (hf : 1 ≤ f ∧ f ≤ 6) (h : r ≠ (zbk f, i, j)) : zcon (zbu B f i j v) S T r = zcon B S T r := by
  obtain ⟨k, a, b⟩ := r
  have u : ∀ g, g ≠ f → (zbu B f i j v).1 g = B.1 g := fun g h => zbu_o B h
  have em : zMf (zbu B f i j v) T = zMf B T := by
    unfold zMf
    congr 1
    funext x
    unfold zmv
    rw [u 10 (by omega)]
  have el : ∀ k a b, zli (zbu B f i j v) S k a b = zli B S k a b := by
    intro k a b
    unfold zli
    rw [u 7 (by omega), u 8 (by omega)]
    rfl
  have w : ∀ g, zbk g = k → (zbu B f i j v).1 g a b = B.1 g a b := fun g hg => zbu_n _ (fun z => h (by rw [← z.1, ← z.2.1, ← z.2.2, hg]))
  unfold zcon
  split
  · rename_i e; cases e; rw [u 0 (by omega), w 1 rfl]
  · rfl
  · rename_i e; cases e; rw [w 2 rfl]
  · rename_i e; cases e; rw [w 3 rfl]
  · rfl
  · rename_i e; cases e; rw [w 4 rfl, w 5 rfl]
  · rename_i e; cases e; rw [w 6 rfl]
  · rfl
  all_goals first | exact el _ _ _ | rw [em] | rfl | rw [u 11 (by omega)]
section ZDC
variable {G : za_G} {A A' : zA} {B B' : zB} {S S' : zS} {T T' : zT} {r0 r0' : za_H}
theorem zdr_mk (r : zQ) : zmk A B S T r0 = zmk (zdr A r) B S T (zr0 A r (zcon B S T r) r0) := by
  funext a
  unfold zmk
  show _ = (match (if A.2 a = some r then none else A.2 a) with
    | some r => some (zcon B S T r)
    | none => zr0 A r (zcon B S T r) r0 a)
  by_cases y : A.2 a = some r
  · rw [if_pos y, y]
    show some _ = zr0 A r (zcon B S T r) r0 a
    unfold zr0
    rw [if_pos y]
  · rw [if_neg y]
    cases ha : A.2 a with
    | none => exact (zr0_no ha).symm
    | some r' => rfl
theorem zdr_F (hf : zF A) (r : zQ) : zF (zdr A r) := by
  intro a r' h
  replace h : (if A.2 a = some r then none else A.2 a) = some r' := h
  by_cases z : A.2 a = some r
  · rw [if_pos z] at h; cases h
  · rw [if_neg z] at h; exact hf _ _ h
theorem zdr_Vn {r r' : zQ} (h : r' ≠ r) : zV (zdr A r) r' ↔ zV A r' := by
  show (if A.2 (A.1 r') = some r then none else A.2 (A.1 r')) = some r' ↔ A.2 (A.1 r') = some r'
  by_cases z : A.2 (A.1 r') = some r
  · rw [if_pos z, z]
    exact ⟨fun y => (by cases y), fun y => absurd (Option.some.inj y).symm h⟩
  · rw [if_neg z]
theorem zdr_no {r : zQ} {a : Nat} (h : A.2 a = none) : (zdr A r).2 a = none := by
  show (if A.2 a = some r then none else A.2 a) = none
  rw [h]
  rfl
theorem zdr_2 {r : zQ} {a : Nat} : (zdr A r).2 a ≠ some r := by
  intro h
  replace h : (if A.2 a = some r then none else A.2 a) = some r := h
  by_cases z : A.2 a = some r
  · rw [if_pos z] at h; cases h
  · rw [if_neg z] at h; exact z h
theorem zmk_ad2 {r : zQ} {q : Nat} (hq : A.2 q = none) (he : r0 q = some (zcon B' S' T' r)) (ho : ∀ a r', A.2 a = some r' → r' ≠ r → zcon B' S' T' r' = zcon B S T r') : zmk A B S T r0 = zmk (zad A r q) B' S' T' (zr0 A r (zcon B S T r) r0) := by
  funext a
  unfold zmk
  show _ = (match (if a = q then some r else if A.2 a = some r then none else A.2 a) with
    | some r => some (zcon B' S' T' r)
    | none => zr0 A r (zcon B S T r) r0 a)
  by_cases z : a = q
  · subst z
    rw [if_pos rfl, hq]
    exact he
  · rw [if_neg z]
    by_cases y : A.2 a = some r
    · rw [if_pos y, y]
      show some _ = zr0 A r (zcon B S T r) r0 a
      unfold zr0
      rw [if_pos y]
    · rw [if_neg y]
      cases ha : A.2 a with
      | none => exact (zr0_no ha).symm
      | some r' =>
        show some _ = some _
        rw [ho a r' ha (fun x => y (by rw [ha, x]))]
/-- a new list takes its role -/
theorem p_lst {k i l : Nat} (hk : 10 ≤ k ∧ k ≤ 18) (hf : zF A) (hN : zN G A r0) (hl : A.2 l = none) (hlt : l ≠ G.t) (h0 : r0 l = some (.inr (0, [.int (nI 0), .ref G.t, .int (nI 0)]))) :
    ∃ A' r0', zmk A B S T r0 = zmk A' (zBu B k i G.t 0 (fun _ => none) (nI 0)) (zup S k i 0 0) T r0' ∧ zF A' ∧ zN G A' r0' ∧ zL G.t A' (zBu B k i G.t 0 (fun _ => none) (nI 0)) (zup S k i 0 0) k i ∧ A'.1 (k, i, 0) = l ∧ (∀ r', r' ≠ (k, i, 0) → r' ≠ (k, i, 1) → A'.1 r' = A.1 r' ∧ (zV A' r' ↔ zV A r')) ∧ (∀ a, A.2 a = none → a ≠ l → A'.2 a = none ∧ r0' a = r0 a) := by
  have hd : (zdr A (k, i, 1)).2 l = none := zdr_no hl
  have hs := zBu_s (B := B) (k := k) (i := i) (b := G.t) (cap := 0) (f := fun _ => none) (m := nI 0)
  have zkk : zkd k = k := by unfold zkd; rw [if_neg (by omega), if_pos (by omega)]
  have no : ∀ a, A.2 a = none → a ≠ l → (zad (zdr A (k, i, 1)) (k, i, 0) l).2 a = none ∧ zr0 (zdr A (k, i, 1)) (k, i, 0) (zcon B S T (k, i, 0)) (zr0 A (k, i, 1) (zcon B S T (k, i, 1)) r0) a = r0 a := fun a h1 h2 => ⟨zad_no (zdr_no h1) h2, by rw [zr0_no (zdr_no h1), zr0_no h1]⟩
  refine ⟨zad (zdr A (k, i, 1)) (k, i, 0) l, zr0 (zdr A (k, i, 1)) (k, i, 0) (zcon B S T (k, i, 0)) (zr0 A (k, i, 1) (zcon B S T (k, i, 1)) r0), ?_, zad_F (zdr_F hf _) _ _, ⟨(no _ hN.1 hlt.symm).1, by rw [(no _ hN.1 hlt.symm).2]; exact hN.2⟩, ⟨zad_V _ _ _, ?_, ?_, ?_, ?_, ?_⟩, zad_s _ _ _, ?_, no⟩
  · rw [zdr_mk (A := A) (k, i, 1)]
    refine zmk_ad2 hd ?_ ?_
    · rw [zr0_no hl, h0, zc_l hk, hs.1, hs.2.2.2, zup_s]
    · intro a r' ha hr
      have h1 : r' ≠ (k, i, 1) := fun z => by rw [z] at ha; exact zdr_2 ha
      rw [zcon_Bu hr h1, zcon_zup (by rw [zkk]; exact hr)]
  · rw [zup_s]; omega
  · rw [hs.2.1]; omega
  · rw [hs.2.1, hs.1]; exact fun _ => rfl
  · rw [hs.2.1]; intro z; omega
  · rw [zup_s]; intro j hj; omega
  · intro r' h1 h2
    exact ⟨zad_n _ _ h1, (zad_Vn hd h1).trans (zdr_Vn h2)⟩
theorem zL_fr {t k i : Nat} (h : zL t A B S k i) (h7 : B'.1 7 k i = B.1 7 k i) (h8 : B'.1 8 k i = B.1 8 k i) (h2 : B'.2.1 k i = B.2.1 k i) (hS : S' k i 0 = S k i 0) (hz : ∀ j, j < S k i 0 → zel S' k i j = zel S k i j) (ha0 : A'.1 (k, i, 0) = A.1 (k, i, 0) ∧ (zV A (k, i, 0) → zV A' (k, i, 0))) (ha1 : A'.1 (k, i, 1) = A.1 (k, i, 1) ∧ (zV A (k, i, 1) → zV A' (k, i, 1))) (hA : ∀ j, j < S k i 0 → zV A (zel S k i j) → A'.1 (zel S k i j) = A.1 (zel S k i j) ∧ zV A' (zel S k i j)) : zL t A' B' S' k i := by
  obtain ⟨l1, l2, l3, l4, l5, l6⟩ := h
  refine ⟨ha0.2 l1, by rw [hS, h8]; exact l2, by rw [h8]; exact l3, by rw [h8, h7]; exact l4, fun z => ?_, fun j hj => ?_⟩
  · rw [h8] at z
    obtain ⟨m1, m2⟩ := l5 z
    exact ⟨ha1.2 m1, by rw [h7, m2, ha1.1]⟩
  · rw [hS] at hj
    obtain ⟨m1, m2⟩ := l6 j hj
    obtain ⟨n1, n2⟩ := hA j hj m2
    rw [hz j hj, h2, n1]
    exact ⟨m1, n2⟩
/-- the state goes on: E is what may be another -/
theorem zI_gen (I : zI G A B S r0) (E : zQ → Prop) (hf : zF A') (hN : zN G A' r0') (hE : ∀ k i j, E (k, i, j) → 1 ≤ k ∧ k ≤ 18) (hEn : ∀ k i j, k ≤ 7 → E (k, i, j) → ¬ zV A (k, i, j)) (hA : ∀ r, ¬ E r → A'.1 r = A.1 r ∧ (zV A' r ↔ zV A r)) (hEl : ∀ k i, zLb S k i → ¬ E (k, i, 0))
    (hlv : ∀ k i j, 1 ≤ k → k ≤ 7 → zLv S' k i j → zLv S k i j ∨ zV A' (k, i, j)) (hlc : ∀ k i j, 1 ≤ k → k ≤ 7 → zLv S k i j ∨ E (k, i, j) → zLv S' k i j)
    (hlb : ∀ k i, zLb S' k i → (zLb S k i ∧ ¬ E (k, i, 1) ∧ B'.1 7 k i = B.1 7 k i ∧ B'.1 8 k i = B.1 8 k i ∧ B'.2.1 k i = B.2.1 k i ∧ S' k i 0 = S k i 0 ∧ ∀ j, j < S k i 0 → zel S' k i j = zel S k i j) ∨ zL G.t A' B' S' k i)
    (hrf : zRf A' B' S') (hp : S' 14 0 0 ≤ S' 19 0 0) (h10 : B'.1 10 = B.1 10) (h11 : B'.1 11 = B.1 11) : zI G A' B' S' r0' ∧ zX A B A' B' := by
  obtain ⟨J, C⟩ := I
  have vE : ∀ k i j, 1 ≤ k → k ≤ 7 → zV A (k, i, j) → ¬ E (k, i, j) := fun k i j _ h7 hv he => hEn k i j h7 he hv
  have nE : ∀ k i j, (k = 0 ∨ 19 ≤ k) → ¬ E (k, i, j) := fun k i j h he => by have := hE k i j he; omega
  refine ⟨⟨⟨hf, hN, (hA _ (nE 0 0 0 (by omega))).2.mpr J.x, ?_, ?_, hrf, hp⟩, ?_⟩, ?_, h10, h11, ?_⟩
  · intro k i j k1 k7 h
    rcases hlv k i j k1 k7 h with h | h
    · have hv := J.v h k1 k7
      exact (hA _ (vE k i j k1 k7 hv)).2.mpr hv
    · exact h
  · intro k i h
    rcases hlb k i h with ⟨h1, h2, h3, h4, h5, h6, h7⟩ | h
    · refine zL_fr (J.l h1) h3 h4 h5 h6 h7 ⟨(hA _ (hEl k i h1)).1, (hA _ (hEl k i h1)).2.mpr⟩ ⟨(hA _ h2).1, (hA _ h2).2.mpr⟩ (fun j hj hv => ?_)
      have hz := zel_7 S k i j
      generalize zel S k i j = r at *
      obtain ⟨a, b, c⟩ := r
      have := hA _ (vE a b c hz.1 hz.2 hv)
      exact ⟨this.1, this.2.mpr hv⟩
    · exact h
  · intro k i j k1 k7 h
    by_cases e : E (k, i, j)
    · exact Or.inl (hlc k i j k1 k7 (Or.inr e))
    · have hv := (hA _ e).2.mp h
      exact Or.inl (hlc k i j k1 k7 (Or.inl ((C k i j k1 k7 hv).elim id (fun z => z.elim))))
  · intro r hr
    obtain ⟨k, i, j⟩ := r
    have := hA _ (nE k i j hr)
    exact ⟨this.1, this.2.mpr⟩
  · intro r r1 r7 hv
    obtain ⟨k, i, j⟩ := r
    have := hA _ (vE k i j r1 r7 hv)
    exact ⟨this.1, this.2.mpr hv⟩
end ZDC
