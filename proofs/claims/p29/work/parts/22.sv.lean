/-! THE STATE (3): the lists -/
theorem zk18 {k : Nat} (h : 10 ≤ k ∧ k ≤ 18) : k = 10 ∨ k = 11 ∨ k = 12 ∨ k = 13 ∨ k = 14 ∨ k = 15 ∨ k = 16 ∨ k = 17 ∨ k = 18 := by omega
theorem zc_l {k : Nat} (hk : 10 ≤ k ∧ k ≤ 18) (B : zB) (S : zS) (T : zT) (i : Nat) : zcon B S T (k, i, 0) = .inr (0, [.int (B.2.2 k i), .ref (B.1 7 k i), .int (nI (S k i 0))]) := by
  rcases zk18 hk with rfl | rfl | rfl | rfl | rfl | rfl | rfl | rfl | rfl <;> rfl
theorem zc_r {k : Nat} (hk : 10 ≤ k ∧ k ≤ 18) (B : zB) (S : zS) (T : zT) (i : Nat) : zcon B S T (k, i, 1) = za_OA (B.1 8 k i) (B.2.1 k i) := by
  rcases zk18 hk with rfl | rfl | rfl | rfl | rfl | rfl | rfl | rfl | rfl <;> rfl
/-- the role of a list's element -/
def zel (S : zS) (k i j : Nat) : zQ := match k with
  | 10 => (2, j, 0)
  | 11 => (2, S 20 j 0, 0)
  | 12 => (3, j, 0)
  | 13 => (4, j, 0)
  | 14 => (5, j, 0)
  | 15 => (1, i, j)
  | 16 => (2, S 21 i j, 0)
  | 17 => (6, i, j)
  | _ => (7, i, j)
/-- its class -/
def zec (k : Nat) : Nat := match k with
  | 10 => 2
  | 11 => 2
  | 12 => 1
  | 13 => 1
  | 14 => 1
  | 15 => 3
  | 16 => 2
  | 17 => 1
  | _ => 1
theorem zec_ok (k : Nat) : za_cok (zec k) ∧ zec k ≠ 0 := by
  unfold zec
  split
  · exact ⟨cok_2, by decide⟩
  · exact ⟨cok_2, by decide⟩
  · exact ⟨cok_1, by decide⟩
  · exact ⟨cok_1, by decide⟩
  · exact ⟨cok_1, by decide⟩
  · exact ⟨cok_3, by decide⟩
  · exact ⟨cok_2, by decide⟩
  · exact ⟨cok_1, by decide⟩
  · exact ⟨cok_1, by decide⟩
theorem zel_c (B : zB) (S S' : zS) (T : zT) (k i j : Nat) : ∃ fs, zcon B S T (zel S' k i j) = .inr (zec k, fs) := by
  unfold zel zec
  split <;> exact ⟨_, rfl⟩
/-- a list stands: t is the empty row's address -/
def zL (t : Nat) (A : zA) (B : zB) (S : zS) (k i : Nat) : Prop :=
  zV A (k, i, 0) ∧ S k i 0 ≤ B.1 8 k i ∧ B.1 8 k i ≤ 2000 ∧ (B.1 8 k i = 0 → B.1 7 k i = t) ∧ (0 < B.1 8 k i → zV A (k, i, 1) ∧ B.1 7 k i = A.1 (k, i, 1)) ∧ ∀ j, j < S k i 0 → B.2.1 k i j = some (A.1 (zel S k i j)) ∧ zV A (zel S k i j)
/-- the empty row has no role -/
def zN (G : za_G) (A : zA) (r0 : za_H) : Prop := A.2 G.t = none ∧ r0 G.t = none
section ZSV
variable {G : za_G} {A : zA} {B : zB} {S : zS} {T : zT} {r0 : za_H} {k i : Nat}
theorem l_size (F : za_F G) (hk : 10 ≤ k ∧ k ≤ 18) (h : zL G.t A B S k i) (K : za_O → za_H → Prop) (q : K (.inl (some (.int (nI (S k i 0))))) (zmk A B S T r0)) : za_P G mJx4a65c_size_8abf5 [.ref (A.1 (k, i, 0))] (zmk A B S T r0) 0 0 K :=
  j_size F (by rw [zmk_at h.1, zc_l hk]) K q
theorem l_get (F : za_F G) (hk : 10 ≤ k ∧ k ≤ 18) (h : zL G.t A B S k i) {j : Nat} (hj : j < S k i 0) (K : za_O → za_H → Prop) (q : K (.inl (some (.ref (A.1 (zel S k i j))))) (zmk A B S T r0)) : za_P G mJx4a65c_get_915e3 [.ref (A.1 (k, i, 0)), .int (nI j)] (zmk A B S T r0) 0 0 K := by
  obtain ⟨h1, h2, h3, h4, h5, h6⟩ := h
  obtain ⟨h7, h8⟩ := h5 (by omega)
  refine j_get F (by rw [zmk_at h1, zc_l hk]) (by rw [h8, zmk_at h7, zc_r hk]) hj h2 (by omega) K ?_
  rw [(h6 j hj).1]
  exact q
/-- what a list's adding costs -/
def zcost (B : zB) (S : zS) (k i : Nat) : Nat := if S k i 0 = B.1 8 k i then zcap (S k i 0) else 0
/-- how addresses go on over an adding -/
def zBu (B : zB) (k i b cap : Nat) (f : Nat → Option Nat) (m : Int32) : zB := (fun f' k' i' => if k' = k ∧ i' = i then (if f' = 7 then b else if f' = 8 then cap else B.1 f' k' i') else B.1 f' k' i', fun k' i' => if k' = k ∧ i' = i then f else B.2.1 k' i', fun k' i' => if k' = k ∧ i' = i then m else B.2.2 k' i')
theorem zBu_1 {B : zB} {k i b cap : Nat} {f : Nat → Option Nat} {m : Int32} {f' : Nat} (h7 : f' ≠ 7) (h8 : f' ≠ 8) : (zBu B k i b cap f m).1 f' = B.1 f' := by
  funext k' i'
  unfold zBu
  show (if _ then (if _ then _ else if _ then _ else _) else _) = _
  rw [if_neg h7, if_neg h8]
  exact ite_self _
theorem zBu_n {B : zB} {k i b cap : Nat} {f : Nat → Option Nat} {m : Int32} {f' k' i' : Nat} (h : ¬ (k' = k ∧ i' = i)) : (zBu B k i b cap f m).1 f' k' i' = B.1 f' k' i' ∧ (zBu B k i b cap f m).2.1 k' i' = B.2.1 k' i' ∧ (zBu B k i b cap f m).2.2 k' i' = B.2.2 k' i' := ⟨if_neg h, if_neg h, if_neg h⟩
theorem zBu_s {B : zB} {k i b cap : Nat} {f : Nat → Option Nat} {m : Int32} : (zBu B k i b cap f m).1 7 k i = b ∧ (zBu B k i b cap f m).1 8 k i = cap ∧ (zBu B k i b cap f m).2.1 k i = f ∧ (zBu B k i b cap f m).2.2 k i = m := ⟨if_pos ⟨rfl, rfl⟩, if_pos ⟨rfl, rfl⟩, if_pos ⟨rfl, rfl⟩, if_pos ⟨rfl, rfl⟩⟩
theorem zBu_li {B : zB} {S : zS} {k i b cap : Nat} {f : Nat → Option Nat} {m : Int32} {k' i' j' : Nat} (h : ¬ ((k' = k ∧ i' = i) ∧ (j' = 0 ∨ j' = 1))) : zli (zBu B k i b cap f m) S k' i' j' = zli B S k' i' j' := by
  unfold zli
  split
  · obtain ⟨a1, a2, a3⟩ := zBu_n (B := B) (b := b) (cap := cap) (f := f) (m := m) (f' := 7) (fun z => h ⟨z, Or.inl rfl⟩)
    rw [a1, a3]
  · obtain ⟨a1, a2, a3⟩ := zBu_n (B := B) (b := b) (cap := cap) (f := f) (m := m) (f' := 8) (fun z => h ⟨z, Or.inr rfl⟩)
    rw [a1, a2]
  · rfl
theorem zcon_Bu {B : zB} {S : zS} {T : zT} {k i b cap : Nat} {f : Nat → Option Nat} {m : Int32} {r : zQ} (h0 : r ≠ (k, i, 0)) (h1 : r ≠ (k, i, 1)) : zcon (zBu B k i b cap f m) S T r = zcon B S T r := by
  obtain ⟨k', i', j'⟩ := r
  have hl : ¬ ((k' = k ∧ i' = i) ∧ (j' = 0 ∨ j' = 1)) := fun z => by
    obtain ⟨⟨rfl, rfl⟩, rfl | rfl⟩ := z
    · exact h0 rfl
    · exact h1 rfl
  have e0 : (zBu B k i b cap f m).1 0 = B.1 0 := zBu_1 (by decide) (by decide)
  have e1 : (zBu B k i b cap f m).1 1 = B.1 1 := zBu_1 (by decide) (by decide)
  have e2 : (zBu B k i b cap f m).1 2 = B.1 2 := zBu_1 (by decide) (by decide)
  have e3 : (zBu B k i b cap f m).1 3 = B.1 3 := zBu_1 (by decide) (by decide)
  have e4 : (zBu B k i b cap f m).1 4 = B.1 4 := zBu_1 (by decide) (by decide)
  have e5 : (zBu B k i b cap f m).1 5 = B.1 5 := zBu_1 (by decide) (by decide)
  have e6 : (zBu B k i b cap f m).1 6 = B.1 6 := zBu_1 (by decide) (by decide)
  have e10 : (zBu B k i b cap f m).1 10 = B.1 10 := zBu_1 (by decide) (by decide)
  have e11 : (zBu B k i b cap f m).1 11 = B.1 11 := zBu_1 (by decide) (by decide)
  have em : zMf (zBu B k i b cap f m) T = zMf B T := by
    unfold zMf
    congr 1
    funext x
    unfold zmv
    rw [e10]
  unfold zcon
  split
  · rw [e0, e1]
  · rfl
  · rw [e2]
  · rw [e3]
  · rfl
  · rw [e4, e5]
  · rw [e6]
  · rfl
  all_goals first | (rename_i e; cases e; exact zBu_li hl) | rw [em] | rfl | rw [e11]
theorem zcon_zS {B : zB} {S S' : zS} {T : zT} {k i n : Nat} (hn : S' k i 0 = n) (hk : 10 ≤ k ∧ k ≤ 18) : zcon B S' T (k, i, 0) = .inr (0, [.int (B.2.2 k i), .ref (B.1 7 k i), .int (nI n)]) := by rw [zc_l hk, hn]
theorem zmk_up2 {B' : zB} {S' : zS} {T' : zT} (hf : zF A) {r1 r2 : zQ} (h1 : zV A r1) (h2 : zV A r2) {e1 e2 : za_E} (c1 : r1 ≠ r2 → zcon B' S' T' r1 = e1) (c2 : zcon B' S' T' r2 = e2) (ho : ∀ r', r' ≠ r1 → r' ≠ r2 → zcon B' S' T' r' = zcon B S T r') : za_up (za_up (zmk A B S T r0) (A.1 r1) e1) (A.1 r2) e2 = zmk A B' S' T' r0 := by
  funext a
  by_cases z2 : a = A.1 r2
  · subst z2; rw [za_up_s, zmk_at h2, c2]
  · rw [za_up_n _ _ z2]
    by_cases z1 : a = A.1 r1
    · subst z1; rw [za_up_s, zmk_at h1, c1 (fun y => z2 (by rw [y]))]
    · rw [za_up_n _ _ z1]
      unfold zmk
      cases ha : A.2 a with
      | none => rfl
      | some r' =>
        show some _ = some _
        rw [ho r' (fun y => z1 (by rw [← y]; exact (hf _ _ ha).symm)) (fun y => z2 (by rw [← y]; exact (hf _ _ ha).symm))]
theorem zmk_upad {B' : zB} {S' : zS} {T' : zT} (hf : zF A) {r r1 : zQ} {q : Nat} (hq : A.2 q = none) (h1 : zV A r1) (hn : r1 ≠ r) {e e1 : za_E} (c0 : zcon B' S' T' r = e) (c1 : zcon B' S' T' r1 = e1) (ho : ∀ r', r' ≠ r1 → r' ≠ r → zcon B' S' T' r' = zcon B S T r') : za_up (za_up (zmk A B S T r0) q e) (A.1 r1) e1 = zmk (zad A r q) B' S' T' (zr0 A r (zcon B S T r) (za_up r0 q e)) := by
  funext a
  by_cases z1 : a = A.1 r1
  · subst z1
    rw [za_up_s]
    have hv := (zad_Vn hq hn).mpr h1
    have e9 := zmk_at (B := B') (S := S') (T := T') (r0 := zr0 A r (zcon B S T r) (za_up r0 q e)) hv
    rw [zad_n _ _ hn] at e9
    rw [e9, c1]
  · rw [za_up_n _ _ z1, zmk_r0 hq]
    unfold zmk
    show _ = (match (if a = q then some r else if A.2 a = some r then none else A.2 a) with
      | some r => some (zcon B' S' T' r)
      | none => zr0 A r (zcon B S T r) (za_up r0 q e) a)
    by_cases z : a = q
    · subst z
      rw [if_pos rfl, hq]
      show za_up r0 a e a = some (zcon B' S' T' r)
      rw [za_up_s, c0]
    · rw [if_neg z]
      by_cases y : A.2 a = some r
      · rw [if_pos y, y]
        show some _ = zr0 A r (zcon B S T r) (za_up r0 q e) a
        unfold zr0
        rw [if_pos y]
      · rw [if_neg y]
        cases ha : A.2 a with
        | none =>
          show za_up r0 q e a = zr0 A r (zcon B S T r) (za_up r0 q e) a
          exact (zr0_no ha).symm
        | some r' =>
          show some _ = some _
          rw [ho r' (fun x => z1 (by rw [← x]; exact (hf _ _ ha).symm)) (fun x => y (by rw [ha, x]))]
theorem zel_k (S : zS) (k i j : Nat) : (zel S k i j).1 ≤ 7 := by
  unfold zel
  split <;> simp
theorem zcap_b {n : Nat} (h : n ≤ 1000) : n < zcap n ∧ zcap n ≤ 2000 := by
  unfold zcap
  split <;> omega
/-- an element more: v takes its place -/
theorem l_add (F : za_F G) (hf : zF A) (hN : zN G A r0) (hk : 10 ≤ k ∧ k ≤ 18) (h : zL G.t A B S k i) {r : zQ} (hr : zV A r) {fs : List Value} (hrc : zcon B S T r = .inr (zec k, fs)) {S' : zS} (hS : S' k i 0 = S k i 0 + 1) (hz : zel S' k i (S k i 0) = r) (hzo : ∀ j, j < S k i 0 → zel S' k i j = zel S k i j) (hco : ∀ r', r' ≠ (k, i, 0) → r' ≠ (k, i, 1) → zcon B S' T r' = zcon B S T r') (hcap : S k i 0 ≤ 1000) (K : za_O → za_H → Prop)
    (q : ∀ A' B' r0', zF A' → zN G A' r0' → zL G.t A' B' S' k i → (∀ r', r' ≠ (k, i, 1) → A'.1 r' = A.1 r' ∧ (zV A' r' ↔ zV A r')) → (∃ b cap f m, B' = zBu B k i b cap f m ∧ (S k i 0 < B.1 8 k i ∧ cap = B.1 8 k i ∨ S k i 0 = B.1 8 k i ∧ cap = zcap (B.1 8 k i))) → K (.inl (some (.int (nI 1)))) (zmk A' B' S' T r0')) : za_P G mJx4a65c_add_9ea2d [.ref (A.1 (k, i, 0)), .ref (A.1 r)] (zmk A B S T r0) 1 (zcost B S k i) K := by
  obtain ⟨h1, h2, h3, h4, h5, h6⟩ := h
  refine j_add (ci := zec k) (cap := B.1 8 k i) F (by rw [zmk_at h1, zc_l hk]) ?_ (by omega) (by rw [zmk_at hr, hrc]) (zec_ok k).2 (zec_ok k).1 K ?_ ?_
  · by_cases h0 : B.1 8 k i = 0
    · right
      rw [h4 h0]
      exact ⟨rfl, by rw [zmk_no hN.1]; exact hN.2, by omega, h0⟩
    · left
      obtain ⟨h7, h8⟩ := h5 (by omega)
      refine ⟨B.2.1 k i, by rw [h8, zmk_at h7, zc_r hk], h2, by omega, fun j y hj hy => ?_⟩
      rw [(h6 j hj).1] at hy
      cases hy
      rw [zmk_at (h6 j hj).2]
      obtain ⟨fs, e⟩ := zel_c B S S T k i j
      exact ⟨fs, by rw [e]⟩
  · intro hlt f hfb
    obtain ⟨h7, h8⟩ := h5 (by omega)
    rw [h8, zmk_at h7, zc_r hk] at hfb
    cases hfb
    have hs := zBu_s (B := B) (k := k) (i := i) (b := B.1 7 k i) (cap := B.1 8 k i) (f := va_up (B.2.1 k i) (S k i 0) (some (A.1 r))) (m := B.2.2 k i + nI 1)
    have e : za_up (za_up (zmk A B S T r0) (B.1 7 k i) (za_OA (B.1 8 k i) (va_up (B.2.1 k i) (S k i 0) (some (A.1 r))))) (A.1 (k, i, 0)) (.inr (0, [.int (B.2.2 k i + nI 1), .ref (B.1 7 k i), .int (nI (S k i 0 + 1))])) = zmk A (zBu B k i (B.1 7 k i) (B.1 8 k i) (va_up (B.2.1 k i) (S k i 0) (some (A.1 r))) (B.2.2 k i + nI 1)) S' T r0 := by
      conv => lhs; rw [show za_up (zmk A B S T r0) (B.1 7 k i) = za_up (zmk A B S T r0) (A.1 (k, i, 1)) by rw [h8]]
      refine zmk_up2 hf h7 h1 (fun _ => ?_) ?_ ?_
      · rw [zc_r hk, hs.2.1, hs.2.2.1]
      · rw [zc_l hk, hs.1, hs.2.2.2, hS]
      · intro r' n1 n0; rw [zcon_Bu n0 n1]; exact hco r' n0 n1
    rw [e]
    refine q A _ r0 hf hN ⟨h1, ?_, ?_, ?_, ?_, ?_⟩ (fun r' _ => ⟨rfl, Iff.rfl⟩) ⟨_, _, _, _, rfl, Or.inl ⟨hlt, rfl⟩⟩
    · rw [hs.2.1, hS]; omega
    · rw [hs.2.1]; exact h3
    · rw [hs.2.1, hs.1]; exact h4
    · rw [hs.2.1, hs.1]; exact h5
    · intro j hj
      rw [hs.2.2.1]
      by_cases z : j = S k i 0
      · subst z
        rw [va_up_self, hz]
        exact ⟨rfl, hr⟩
      · rw [va_up_ne _ _ z, hzo j (by omega)]
        exact h6 j (by omega)
  · intro heq q' f hq hf0
    obtain ⟨hq1, hq2, hq3⟩ := zmk_nn hq
    have hs := zBu_s (B := B) (k := k) (i := i) (b := q') (cap := zcap (S k i 0)) (f := va_up f (S k i 0) (some (A.1 r))) (m := B.2.2 k i + nI 1)
    have hb := zcap_b (n := S k i 0) (by omega)
    have hr1 : r ≠ (k, i, 1) := fun z => by have := zel_k S' k i (S k i 0); rw [hz, z] at this; simp at this; omega
    rw [zmk_upad (B' := zBu B k i q' (zcap (S k i 0)) (va_up f (S k i 0) (some (A.1 r))) (B.2.2 k i + nI 1)) (S' := S') (T' := T) (r := (k, i, 1)) (r1 := (k, i, 0)) hf hq1 h1 (fun z => by cases z) (by rw [zc_r hk, hs.2.1, hs.2.2.1]) (by rw [zc_l hk, hs.1, hs.2.2.2, hS]) (fun r' n0 n1 => by rw [zcon_Bu n0 n1]; exact hco r' n0 n1)]
    refine q _ _ _ (zad_F hf _ _) ⟨zad_no hN.1 hq3.symm, ?_⟩ ⟨(zad_Vn hq1 (fun z => by cases z)).mpr h1, ?_, ?_, ?_, ?_, ?_⟩ (fun r' n1 => ⟨zad_n _ _ n1, zad_Vn hq1 n1⟩) ⟨_, _, _, _, rfl, Or.inr ⟨heq, by rw [heq]⟩⟩
    · rw [zr0_no hN.1, za_up_n _ _ hq3.symm]; exact hN.2
    · rw [hs.2.1, hS]; omega
    · rw [hs.2.1]; omega
    · rw [hs.2.1]; intro z; omega
    · rw [hs.2.1, hs.1]; exact fun _ => ⟨zad_V _ _ _, (zad_s _ _ _).symm⟩
    · intro j hj
      rw [hs.2.2.1]
      have hne : ∀ j, zel S' k i j ≠ (k, i, 1) := fun j z => by have := zel_k S' k i j; rw [z] at this; simp at this; omega
      rw [zad_n _ _ (hne j), zad_Vn hq1 (hne j)]
      by_cases z : j = S k i 0
      · subst z
        rw [va_up_self, hz]
        exact ⟨rfl, hr⟩
      · rw [va_up_ne _ _ z, hzo j (by omega)]
        refine ⟨?_, (h6 j (by omega)).2⟩
        rw [← (h6 j (by omega)).1]
        obtain ⟨h7, h8⟩ := h5 (by omega)
        exact hf0 (B.2.1 k i) _ (by rw [h8, zmk_at h7, zc_r hk]) j (by omega)
end ZSV
/-- no element left -/
theorem l_clear {G : za_G} {A : zA} {B : zB} {S : zS} {T : zT} {r0 : za_H} {k i : Nat} (F : za_F G) (hf : zF A) (hk : 10 ≤ k ∧ k ≤ 18) (h : zL G.t A B S k i) (K : za_O → za_H → Prop)
    (q : ∀ B', zL G.t A B' (zup S k i 0 0) k i → (∃ f m, B' = zBu B k i (B.1 7 k i) (B.1 8 k i) f m) → K (.inl none) (zmk A B' (zup S k i 0 0) T r0)) : za_P G mJx4a65c_clear_da8c8 [.ref (A.1 (k, i, 0))] (zmk A B S T r0) 0 0 K := by
  obtain ⟨h1, h2, h3, h4, h5, h6⟩ := h
  have fin : ∀ f m, zL G.t A (zBu B k i (B.1 7 k i) (B.1 8 k i) f m) (zup S k i 0 0) k i := fun f m => by
    have hs := zBu_s (B := B) (k := k) (i := i) (b := B.1 7 k i) (cap := B.1 8 k i) (f := f) (m := m)
    refine ⟨h1, ?_, ?_, ?_, ?_, ?_⟩
    · rw [zup_s]; omega
    · rw [hs.2.1]; exact h3
    · rw [hs.2.1, hs.1]; exact h4
    · rw [hs.2.1, hs.1]; exact h5
    · intro j hj; rw [zup_s] at hj; omega
  have hu : ∀ r', r' ≠ (k, i, 0) → zcon B (zup S k i 0 0) T r' = zcon B S T r' := fun r' n => zcon_zup (by
    have e : zkd k = k := by unfold zkd; rw [if_neg (by omega), if_pos (by omega)]
    rw [e]; exact n)
  by_cases h0 : B.1 8 k i = 0
  · have hz : S k i 0 = 0 := by omega
    refine j_clear0 (m0 := B.2.2 k i) (b := B.1 7 k i) F (by rw [zmk_at h1, zc_l hk, hz]) K ?_
    have e : za_up (zmk A B S T r0) (A.1 (k, i, 0)) (.inr (0, [.int (B.2.2 k i + nI 1), .ref (B.1 7 k i), .int (nI 0)])) = zmk A (zBu B k i (B.1 7 k i) (B.1 8 k i) (B.2.1 k i) (B.2.2 k i + nI 1)) (zup S k i 0 0) T r0 := by
      have hs := zBu_s (B := B) (k := k) (i := i) (b := B.1 7 k i) (cap := B.1 8 k i) (f := B.2.1 k i) (m := B.2.2 k i + nI 1)
      refine zmk_up hf h1 ?_ ?_
      · rw [zc_l hk, hs.1, hs.2.2.2, zup_s]
      · intro r' n0
        by_cases n1 : r' = (k, i, 1)
        · subst n1
          rw [zc_r hk, zc_r hk, hs.2.1, hs.2.2.1]
        · rw [zcon_Bu n0 n1]; exact hu r' n0
    rw [e]
    exact q _ (fin _ _) ⟨_, _, rfl⟩
  · obtain ⟨h7, h8⟩ := h5 (by omega)
    refine j_clear (m0 := B.2.2 k i) (b := B.1 7 k i) (n := S k i 0) (cap := B.1 8 k i) (f := B.2.1 k i) F (by rw [zmk_at h1, zc_l hk]) (by rw [h8, zmk_at h7, zc_r hk]) h2 (by omega) K ?_
    have e : za_up (za_up (zmk A B S T r0) (B.1 7 k i) (za_OA (B.1 8 k i) (fun j => if j < S k i 0 then none else B.2.1 k i j))) (A.1 (k, i, 0)) (.inr (0, [.int (B.2.2 k i + nI 1), .ref (B.1 7 k i), .int (nI 0)])) = zmk A (zBu B k i (B.1 7 k i) (B.1 8 k i) (fun j => if j < S k i 0 then none else B.2.1 k i j) (B.2.2 k i + nI 1)) (zup S k i 0 0) T r0 := by
      have hs := zBu_s (B := B) (k := k) (i := i) (b := B.1 7 k i) (cap := B.1 8 k i) (f := fun j => if j < S k i 0 then none else B.2.1 k i j) (m := B.2.2 k i + nI 1)
      conv => lhs; rw [show za_up (zmk A B S T r0) (B.1 7 k i) = za_up (zmk A B S T r0) (A.1 (k, i, 1)) by rw [h8]]
      refine zmk_up2 hf h7 h1 (fun _ => ?_) ?_ ?_
      · rw [zc_r hk, hs.2.1, hs.2.2.1]
      · rw [zc_l hk, hs.1, hs.2.2.2, zup_s]
      · intro r' n1 n0; rw [zcon_Bu n0 n1]; exact hu r' n0
    rw [e]
    exact q _ (fin _ _) ⟨_, _, rfl⟩
