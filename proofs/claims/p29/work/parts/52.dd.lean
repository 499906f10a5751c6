/-! THE CLASS (30): app -/
/-- the state with an app more -/
def zapp (S : zS) (x : Nat) : zS := zup (zup (zup (zup S 38 (S 12 0 0) 0 x) 39 (S 12 0 0) 0 0) 16 (S 12 0 0) 0 0) 12 0 0 (S 12 0 0 + 1)
theorem zapp_o (S : zS) (x : Nat) {f : Nat} (h1 : f ≠ 38) (h2 : f ≠ 39) (h3 : f ≠ 16) (h4 : f ≠ 12) : zapp S x f = S f := by
  unfold zapp
  rw [zup_o _ h4, zup_o _ h3, zup_o _ h2, zup_o _ h1]
section ZDD
variable {G : za_G} {A : zA} {B : zB} {S : zS} {T : zT} {r0 : za_H}
/-- an app takes its place -/
theorem p_app (F : za_F G) (I : zI G A B S r0) (hn : S 12 0 0 ≤ 1000) {v l x : Nat} (hv : A.2 v = none) (hvt : v ≠ G.t) (hl : A.2 l = none) (hlt : l ≠ G.t) (hlv : l ≠ v) (h0 : r0 v = some (.inr (1, [.int (nI x), .ref l, .int (nI 0)]))) (h1 : r0 l = some (.inr (0, [.int (nI 0), .ref G.t, .int (nI 0)]))) (K : za_O → za_H → Prop)
    (q : ∀ A' B' r0', zX A B A' B' → zI G A' B' (zapp S x) r0' → K (.inl (some (.int (nI 1)))) (zmk A' B' (zapp S x) T r0')) : za_P G mJx4a65c_add_9ea2d [.ref (A.1 (12, 0, 0)), .ref v] (zmk A B S T r0) 1 (zcost B S 12 0) K := by
  have J := I.1
  obtain ⟨A1, r1, e1, f1, n1, L1, a1, o1, p1⟩ := p_lst (B := B) (S := S) (T := T) (k := 16) (i := S 12 0 0) (by omega) J.f J.n hl hlt h1
  obtain ⟨v1, v2⟩ := p1 v hv hlv.symm
  rw [e1]
  rw [h0] at v2
  generalize hn12 : S 12 0 0 = n at *
  generalize hB1 : zBu B 16 n G.t 0 (fun _ => none) (nI 0) = B1 at *
  have u1 : ∀ f', f' ≠ 7 → f' ≠ 8 → B1.1 f' = B.1 f' := fun f' a b => by rw [← hB1]; exact zBu_1 a b
  have ub : ∀ f' k i, ¬ (k = 16 ∧ i = n) → B1.1 f' k i = B.1 f' k i ∧ B1.2.1 k i = B.2.1 k i ∧ B1.2.2 k i = B.2.2 k i := fun f' k i h => by rw [← hB1]; exact zBu_n h
  have hS2 : ∀ r, r ≠ ((3, n, 0) : zQ) → zcon (zbu B1 3 n 0 l) (zup (zup (zup S 16 n 0 0) 38 n 0 x) 39 n 0 0) T r = zcon B1 (zup S 16 n 0 0) T r := fun r h => by
    rw [zcon_bu (by omega) (by exact h), zcon_zup (by exact h), zcon_zup (by exact h)]
  rw [zmk_ad (r := (3, n, 0)) (B' := zbu B1 3 n 0 l) (S' := zup (zup (zup S 16 n 0 0) 38 n 0 x) 39 n 0 0) (T' := T) v1 (by
    rw [v2, zc_3, zup_s, zbu_s, zup_n _ (by omega), zup_s]) hS2]
  have V2 := zad_V A1 (3, n, 0) v
  have a2 : (zad A1 (3, n, 0) v).1 (3, n, 0) = v := zad_s _ _ _
  have o2 : ∀ r', r' ≠ (3, n, 0) → (zad A1 (3, n, 0) v).1 r' = A1.1 r' ∧ (zV (zad A1 (3, n, 0) v) r' ↔ zV A1 r') := fun r' h => ⟨zad_n _ _ h, zad_Vn v1 h⟩
  have f2 := zad_F f1 (3, n, 0) v
  have n2 : zN G (zad A1 (3, n, 0) v) (zr0 A1 (3, n, 0) (zcon B1 (zup S 16 n 0 0) T (3, n, 0)) r1) := ⟨zad_no n1.1 hvt.symm, by rw [zr0_no n1.1]; exact n1.2⟩
  generalize zad A1 (3, n, 0) v = A2 at *
  generalize zr0 A1 (3, n, 0) (zcon B1 (zup S 16 n 0 0) T (3, n, 0)) r1 = r2 at *
  have E12 : ∀ j, A2.1 (12, 0, j) = A.1 (12, 0, j) ∧ (zV A2 (12, 0, j) ↔ zV A (12, 0, j)) := fun j => by
    obtain ⟨b1, b2⟩ := o2 (12, 0, j) (fun y => by cases y)
    obtain ⟨c1, c2⟩ := o1 (12, 0, j) (fun y => by cases y) (fun y => by cases y)
    exact ⟨b1.trans c1, b2.trans c2⟩
  have hS12 : zup (zup (zup S 16 n 0 0) 38 n 0 x) 39 n 0 0 12 0 0 = n := by rw [zup_o _ (by omega), zup_o _ (by omega), zup_o _ (by omega)]; exact hn12
  have hb8 : (zbu B1 3 n 0 l).1 8 12 0 = B.1 8 12 0 := by rw [zbu_o _ (by omega)]; exact (ub 8 12 0 (by omega)).1
  have hb7 : (zbu B1 3 n 0 l).1 7 12 0 = B.1 7 12 0 := by rw [zbu_o _ (by omega)]; exact (ub 7 12 0 (by omega)).1
  have hb2 : (zbu B1 3 n 0 l).2.1 12 0 = B.2.1 12 0 := (ub 7 12 0 (by omega)).2.1
  have hL12 : zL G.t A2 (zbu B1 3 n 0 l) (zup (zup (zup S 16 n 0 0) 38 n 0 x) 39 n 0 0) 12 0 := by
    refine zL_fr (J.l (k := 12) (i := 0) rfl) hb7 hb8 hb2 (by rw [hS12, hn12]) (fun j _ => rfl) ⟨(E12 0).1, (E12 0).2.mpr⟩ ⟨(E12 1).1, (E12 1).2.mpr⟩ (fun j hj _ => ?_)
    rw [hn12] at hj
    show A2.1 (3, j, 0) = A.1 (3, j, 0) ∧ zV A2 (3, j, 0)
    obtain ⟨b1, b2⟩ := o2 (3, j, 0) (fun y => by cases y; omega)
    obtain ⟨c1, c2⟩ := o1 (3, j, 0) (fun y => by cases y) (fun y => by cases y)
    exact ⟨b1.trans c1, (b2.trans c2).mpr (J.v (k := 3) (i := j) (j := 0) ⟨by omega, rfl⟩)⟩
  have ec : zcost (zbu B1 3 n 0 l) (zup (zup (zup S 16 n 0 0) 38 n 0 x) 39 n 0 0) 12 0 = zcost B S 12 0 := by unfold zcost; rw [hS12, hb8, hn12]
  have hS' : zapp S x = zup (zup (zup (zup S 16 n 0 0) 38 n 0 x) 39 n 0 0) 12 0 0 (n + 1) := by
    unfold zapp
    rw [hn12]
    funext f i j
    unfold zup
    split
    · rfl
    · by_cases g1 : f = 16 ∧ i = n ∧ j = 0
      · obtain ⟨rfl, rfl, rfl⟩ := g1; simp
      · simp [g1]
  rw [show [Value.ref (A.1 (12, 0, 0)), Value.ref v] = [Value.ref (A2.1 (12, 0, 0)), Value.ref (A2.1 (3, n, 0))] by rw [(E12 0).1, a2], ← ec]
  have s12 : zapp S x 12 0 0 = n + 1 := by rw [hS']; exact zup_s _ _ _ _ _
  have s16 : zapp S x 16 n 0 = 0 := by rw [hS', zup_o _ (by omega), zup_o _ (by omega), zup_o _ (by omega)]; exact zup_s _ _ _ _ _
  have s16' : ∀ a, a ≠ n → zapp S x 16 a 0 = S 16 a 0 := fun a h => by rw [hS', zup_o _ (by omega), zup_o _ (by omega), zup_o _ (by omega)]; exact zup_n _ (fun z => h z.2.1)
  have so : ∀ f, f ≠ 38 → f ≠ 39 → f ≠ 16 → f ≠ 12 → zapp S x f = S f := fun f => zapp_o S x
  refine l_add (r := (3, n, 0)) (S' := zapp S x) F f2 n2 (by omega) hL12 V2 (zc_3 _ _ T n 0) (by rw [s12, hS12]) (by rw [hS12]; rfl) (fun j hj => rfl) (fun r' h0 h1 => by rw [hS', zcon_zup (by exact h0)]) (by rw [hS12]; exact hn) K ?_
  intro A' B' r0' hf' hN' hL' hA' hB'
  obtain ⟨b', cap', f', m', rfl, hcap'⟩ := hB'
  refine (fun w => q _ _ _ w.2 w.1) (zI_gen I (fun r => r = (3, n, 0) ∨ r = (16, n, 0) ∨ r = (16, n, 1) ∨ r = (12, 0, 1)) hf' hN' (fun k i j e => ?_) (fun k i j h7 e => ?_) (fun r e => ?_) (fun k i h e => ?_) (fun k i j k1 k7 h => ?_) (fun k i j k1 k7 h => ?_) (fun k i h => ?_) ?_ ?_ ?_ ?_)
  · rcases e with e | e | e | e <;> cases e <;> omega
  · rcases e with e | e | e | e
    · cases e
      intro z
      exact (I.2 3 n 0 (by omega) (by omega) z).elim (fun y => by have := y.1; omega) id
    all_goals cases e; omega
  · have h3 : r ≠ (3, n, 0) := fun y => e (Or.inl y)
    have h16 : r ≠ (16, n, 0) := fun y => e (Or.inr (Or.inl y))
    have h161 : r ≠ (16, n, 1) := fun y => e (Or.inr (Or.inr (Or.inl y)))
    have h12 : r ≠ (12, 0, 1) := fun y => e (Or.inr (Or.inr (Or.inr y)))
    exact ⟨(hA' r h12).1.trans ((o2 r h3).1.trans (o1 r h16 h161).1), (hA' r h12).2.trans ((o2 r h3).2.trans (o1 r h16 h161).2)⟩
  · rcases e with e | e | e | e
    · cases e; have := zLb_k h; omega
    · cases e; have h : n < S 12 0 0 := h; omega
    · cases e
    · cases e
  · by_cases g : ((k, i, j) : zQ) = (3, n, 0)
    · rw [g]
      exact Or.inr ((hA' _ (fun y => by cases y)).2.mpr V2)
    · left
      have hk : k = 1 ∨ k = 2 ∨ k = 3 ∨ k = 4 ∨ k = 5 ∨ k = 6 ∨ k = 7 := by omega
      rcases hk with rfl | rfl | rfl | rfl | rfl | rfl | rfl
      · obtain ⟨x1, x2⟩ := h; rw [so 10 (by omega) (by omega) (by omega) (by omega)] at x1; rw [so 15 (by omega) (by omega) (by omega) (by omega)] at x2; exact ⟨x1, x2⟩
      · obtain ⟨x1, x2⟩ := h; rw [so 10 (by omega) (by omega) (by omega) (by omega)] at x1; exact ⟨x1, x2⟩
      · obtain ⟨x1, x2⟩ := h
        rw [s12] at x1
        refine ⟨?_, x2⟩
        have : i ≠ n := fun y => g (by rw [y, x2])
        omega
      · obtain ⟨x1, x2⟩ := h; rw [so 13 (by omega) (by omega) (by omega) (by omega)] at x1; exact ⟨x1, x2⟩
      · obtain ⟨x1, x2⟩ := h; rw [so 19 (by omega) (by omega) (by omega) (by omega)] at x1; exact ⟨x1, x2⟩
      · obtain ⟨x1, x2⟩ := h; rw [so 19 (by omega) (by omega) (by omega) (by omega)] at x1; rw [so 17 (by omega) (by omega) (by omega) (by omega)] at x2; exact ⟨x1, x2⟩
      · obtain ⟨x1, x2⟩ := h; rw [so 19 (by omega) (by omega) (by omega) (by omega)] at x1; rw [so 18 (by omega) (by omega) (by omega) (by omega)] at x2; exact ⟨x1, x2⟩
  · rcases h with h | h | h | h | h
    · have hk : k = 1 ∨ k = 2 ∨ k = 3 ∨ k = 4 ∨ k = 5 ∨ k = 6 ∨ k = 7 := by omega
      rcases hk with rfl | rfl | rfl | rfl | rfl | rfl | rfl
      · obtain ⟨x1, x2⟩ := h; exact ⟨by rw [so 10 (by omega) (by omega) (by omega) (by omega)]; exact x1, by rw [so 15 (by omega) (by omega) (by omega) (by omega)]; exact x2⟩
      · obtain ⟨x1, x2⟩ := h; exact ⟨by rw [so 10 (by omega) (by omega) (by omega) (by omega)]; exact x1, x2⟩
      · obtain ⟨x1, x2⟩ := h; exact ⟨by rw [s12]; omega, x2⟩
      · obtain ⟨x1, x2⟩ := h; exact ⟨by rw [so 13 (by omega) (by omega) (by omega) (by omega)]; exact x1, x2⟩
      · obtain ⟨x1, x2⟩ := h; exact ⟨by rw [so 19 (by omega) (by omega) (by omega) (by omega)]; exact x1, x2⟩
      · obtain ⟨x1, x2⟩ := h; exact ⟨by rw [so 19 (by omega) (by omega) (by omega) (by omega)]; exact x1, by rw [so 17 (by omega) (by omega) (by omega) (by omega)]; exact x2⟩
      · obtain ⟨x1, x2⟩ := h; exact ⟨by rw [so 19 (by omega) (by omega) (by omega) (by omega)]; exact x1, by rw [so 18 (by omega) (by omega) (by omega) (by omega)]; exact x2⟩
    · cases h; exact ⟨by rw [s12]; omega, rfl⟩
    all_goals cases h; omega
  · have hk := zLb_k h
    by_cases h12 : k = 12
    · subst h12
      have hi : i = 0 := h
      subst hi
      exact Or.inr hL'
    · by_cases h16 : k = 16 ∧ i = n
      · obtain ⟨rfl, rfl⟩ := h16
        right
        refine ⟨(hA' _ (fun y => by cases y)).2.mpr ((o2 _ (fun y => by cases y)).2.mpr L1.1), ?_, ?_, ?_, ?_, ?_⟩
        · rw [s16]; omega
        · rw [(zBu_n (by omega)).1, zbu_o _ (by omega), ← hB1, zBu_s.2.1]; omega
        · rw [(zBu_n (by omega)).1, (zBu_n (by omega)).1, zbu_o _ (by omega), zbu_o _ (by omega), ← hB1, zBu_s.2.1, zBu_s.1]; exact fun _ => rfl
        · rw [(zBu_n (by omega)).1, zbu_o _ (by omega), ← hB1, zBu_s.2.1]; intro z; omega
        · rw [s16]; intro j hj; omega
      · left
        have u7 : (zBu (zbu B1 3 n 0 l) 12 0 b' cap' f' m').1 7 k i = B.1 7 k i := by rw [(zBu_n (by omega)).1, zbu_o _ (by omega)]; exact (ub 7 k i h16).1
        have u8 : (zBu (zbu B1 3 n 0 l) 12 0 b' cap' f' m').1 8 k i = B.1 8 k i := by rw [(zBu_n (by omega)).1, zbu_o _ (by omega)]; exact (ub 8 k i h16).1
        have u2 : (zBu (zbu B1 3 n 0 l) 12 0 b' cap' f' m').2.1 k i = B.2.1 k i := by rw [(zBu_n (f' := 7) (by omega)).2.1]; exact (ub 7 k i h16).2.1
        refine ⟨?_, ?_, u7, u8, u2, ?_, ?_⟩
        · unfold zLb at h ⊢
          rw [s12, so 10 (by omega) (by omega) (by omega) (by omega), so 19 (by omega) (by omega) (by omega) (by omega)] at h
          split at h <;> first | exact h | (show i < S 12 0 0; omega)
        · intro e
          rcases e with e | e | e | e <;> cases e <;> omega
        · by_cases g : k = 16
          · subst g; exact s16' i (fun y => h16 ⟨rfl, y⟩)
          · rw [so k (by omega) (by omega) g h12]
        · intro j hj
          unfold zel
          rw [so 20 (by omega) (by omega) (by omega) (by omega), so 21 (by omega) (by omega) (by omega) (by omega)]
  · obtain ⟨t1, t2, t3, t4, t5⟩ := J.r
    have g0 : ∀ f'', f'' ≠ 7 → f'' ≠ 8 → f'' ≠ 3 → (zBu (zbu B1 3 n 0 l) 12 0 b' cap' f' m').1 f'' = B.1 f'' := fun f'' h1 h2 h3 => by rw [zBu_1 h1 h2, zbu_o _ h3, u1 f'' h1 h2]
    have g3 : (zBu (zbu B1 3 n 0 l) 12 0 b' cap' f' m').1 3 = (zbu B1 3 n 0 l).1 3 := zBu_1 (by omega) (by omega)
    have ga : ∀ r, r ≠ ((3, n, 0) : zQ) → r ≠ (16, n, 0) → r ≠ (16, n, 1) → r ≠ (12, 0, 1) → A'.1 r = A.1 r := fun r h1 h2 h3 h4 => (hA' r h4).1.trans ((o2 r h1).1.trans (o1 r h2 h3).1)
    refine ⟨fun k k1 k2 => ?_, ?_, fun i hi => ?_, fun a ha => ?_, fun d hd => ?_⟩
    · rw [g0 0 (by omega) (by omega) (by omega), ga _ (fun y => by cases y; omega) (fun y => by cases y; omega) (fun y => by cases y) (fun y => by cases y)]; exact t1 k k1 k2
    · rw [g0 1 (by omega) (by omega) (by omega), so 10 (by omega) (by omega) (by omega) (by omega), ga _ (fun y => by cases y) (fun y => by cases y) (fun y => by cases y) (fun y => by cases y)]; exact t2
    · rw [so 10 (by omega) (by omega) (by omega) (by omega)] at hi
      rw [g0 2 (by omega) (by omega) (by omega), ga _ (fun y => by cases y) (fun y => by cases y) (fun y => by cases y) (fun y => by cases y)]; exact t3 i hi
    · rw [s12] at ha
      rw [g3]
      by_cases g : a = n
      · subst g
        rw [zbu_s, (hA' _ (fun y => by cases y)).1, (o2 _ (fun y => by cases y)).1, a1]
      · rw [zbu_n _ (fun y => g y.2.1), u1 3 (by omega) (by omega), ga _ (fun y => by cases y) (fun y => g (by cases y; rfl)) (fun y => by cases y) (fun y => by cases y)]; exact t4 a (by omega)
    · rw [so 19 (by omega) (by omega) (by omega) (by omega)] at hd
      obtain ⟨w1, w2, w3⟩ := t5 d hd
      rw [g0 4 (by omega) (by omega) (by omega), g0 5 (by omega) (by omega) (by omega), g0 6 (by omega) (by omega) (by omega), so 17 (by omega) (by omega) (by omega) (by omega), so 49 (by omega) (by omega) (by omega) (by omega), so 55 (by omega) (by omega) (by omega) (by omega)]
      refine ⟨by rw [ga _ (fun y => by cases y) (fun y => by cases y) (fun y => by cases y) (fun y => by cases y)]; exact w1, by rw [ga _ (fun y => by cases y) (fun y => by cases y) (fun y => by cases y) (fun y => by cases y)]; exact w2, fun k hk => ?_⟩
      obtain ⟨z1, z2⟩ := w3 k hk
      refine ⟨by rw [ga _ (fun y => by cases y) (fun y => by cases y) (fun y => by cases y) (fun y => by cases y)]; exact z1, ?_⟩
      obtain ⟨x1, x2⟩ := z2
      exact ⟨by rw [so 10 (by omega) (by omega) (by omega) (by omega)]; exact x1, by rw [so 15 (by omega) (by omega) (by omega) (by omega)]; exact x2⟩
  · rw [so 14 (by omega) (by omega) (by omega) (by omega), so 19 (by omega) (by omega) (by omega) (by omega)]; exact J.p
  · rw [zBu_1 (by omega) (by omega), zbu_o _ (by omega), u1 10 (by omega) (by omega)]
  · rw [zBu_1 (by omega) (by omega), zbu_o _ (by omega), u1 11 (by omega) (by omega)]
theorem t_app (F : za_F G) (I : zI G A B S r0) (hn : S 12 0 0 ≤ 1000) (x : Int32) (K : za_O → za_H → Prop)
    (q0 : ¬ (0 ≤ x.toInt ∧ x.toInt < 4) → K (.inr 2) (zmk A B S T r0))
    (q1 : (0 ≤ x.toInt ∧ x.toInt < 4) → 6 ≤ S 12 0 0 → K (.inr 1) (zmk A B S T r0))
    (q2 : ∀ n, n < 4 → x = nI n → S 12 0 0 < 6 → ∀ A' B' r0', zX A B A' B' → zI G A' B' (zapp S n) r0' → K (.inl (some (.int (nI (S 12 0 0))))) (zmk A' B' (zapp S n) T r0')) : za_P G mX7_app [.ref (A.1 (0, 0, 0)), .int x] (zmk A B S T r0) 5 40 K := by
  have J := I.1
  have hl := J.l (k := 12) (i := 0) rfl
  have hb := J.r.1 12 (by omega) (by omega)
  refine za_m (y := yX7_app) (cc := cX7_app) (nL := 2) (ret := (some .int)) (hh := []) (fr := 7) (lk := lkX7) (hx := []) (ini := false) (cuts := fun p => false) F okX7 trivial (by decide +kernel) (by decide +kernel) (Nat.le_of_ble_eq_true rfl) (by simp [Value.category]) (fun w hw => ?_)
  refine hw 60 _ _ _ _ _ _ ?_
  simp only [za_lv_0, za_lv_s, za_isI_i, za_rf_r, za_rf_n, za_rf_v, za_ck_r, za_isC_eq, zs_f, zs_d, zs_iconst, zs_bipush, zs_sipush, zs_lconst, zs_null, zs_iload_n, zs_iload, zs_aload_n, zs_aload, za_iv_i, zs_iinc, zs_istore_n, zs_istore, zs_astore_n, zs_astore, zs_iadd, zs_isub, zs_imul, zs_iand, zs_ior, zs_ixor, zs_ishl, zs_ishr, zs_idiv, zs_irem, zs_lshl, zs_lshr, zs_land, zs_lor, zs_lstore, za_lg_0, za_lg_s, za_ll_s, za_lc_s, zs_lload_n, zs_lload, zs_ldc, zs_i2l, zs_lcmp, zs_dup, zs_dup_x1, zs_dup2, zs_pop, zs_goto, zs_icmp, zs_ifc, zs_nonnull, zs_acmp_eq, zs_acmp_ne, za_sw_s, zs_switch, za_iaload_s, zs_iaload, za_baload_s, zs_baload, za_laload_s, zs_laload, za_aaload_s, zs_aaload, za_iastore_s, zs_iastore, za_bastore_s, zs_bastore, za_lastore_s, zs_lastore, za_aasN_s, zs_aastoreN, za_aas_s, zs_aastore, za_alg_s, za_alg_n, zs_alen, za_gf_s, za_vl_0, za_vl_s, zs_getfield, za_pf_s, zs_putfield, za_nw_s, za_nw_t, za_tx_1, za_tx_2, zs_th, zs_new, zs_newarray, za_cx_s, zs_checkcast, za_vB_s, za_vA_s, za_sX_s, za_sN_s, za_sA_5, za_sA_6, za_sA_1, za_sA_3, za_oB_s, za_iA_2, za_iA_4, zs_invokevirtual, zs_invokestatic, zs_invokespecial, zs_ireturn, zs_return, zs_areturn, zs_areturnA, za_ex0, za_go_eq, za_fit_i, za_fit_b, za_fit_b0, za_fit_b1, za_fit_r, za_fit_n, za_fit_a, za_up_s, za_upup, za_fn_0, za_fn_1, za_fn_2, za_fn_3, za_cd_eq, za_cd_ne, za_cd_lt, za_cd_ge, za_cd_gt, za_cd_le, za_cat_i, za_cat_r, za_cat_n, zb_n0, zb_n1, zb_narrow, zn_narrow, Option.toList_some, Option.toList_none, List.set_cons_zero, List.set_cons_succ, List.length_cons, List.length_nil, List.take_succ_cons, List.take_zero, List.drop_succ_cons, List.drop_zero, List.reverse_cons, List.reverse_nil, List.nil_append, List.cons_append, List.map_cons, List.map_nil, List.replicate_succ, List.replicate_zero, true_and, and_true, true_or, or_true, false_or, or_false, eq_self, not_true_eq_false, not_false_eq_true, false_implies, true_implies, implies_true, and_self, Nat.zero_add, Nat.add_zero, Nat.le_refl, Nat.zero_le, Nat.reduceEqDiff, if_true, if_false, za_t.eq_1, za_t0.eq_1, Int.cast_ofNat_Int, Int.reduceAdd, Int.reduceToNat, Int.reduceLE, Int.reduceNeg, Nat.reduceAdd, Nat.reduceSub, Nat.reduceBEq, Nat.reduceLT, Nat.reduceLeDiff, ↓reduceIte, Bool.false_eq_true, Bool.or_false, Bool.or_true, Bool.false_or, Bool.true_or, decide_true, decide_false, ge_iff_le, gt_iff_lt, dX7_app_0, dX7_app_1, dX7_app_4, dX7_app_5, dX7_app_8, dX7_app_11, dX7_app_13, dX7_app_16, dX7_app_19, dX7_app_20, dX7_app_22, dX7_app_25, dX7_app_26, dX7_app_27, dX7_app_30, dX7_app_33, dX7_app_34, dX7_app_35, dX7_app_38, dX7_app_41, dX7_app_42, dX7_app_43, dX7_app_46, dX7_app_49, dX7_app_50, dX7_app_51, uX7_f19, uX7_n72, uX7_t72, uX7_m79, uX7_m88, uX7_m99, uX7_s151, uX7_n153, uX7_c153, uX7_m155, zi_b6, zi_i1]
  refine za_call (mc' := 1) (ms' := 6) (by omega) (by omega) (m_needShow F _ _ _ (fun hs => ?_) (fun hs => ?_))
  · obtain ⟨n, h4, rfl, h6⟩ := zx_n (x := x) (by omega)
    have q1' := q1 hs
    simp only [za_lv_0, za_lv_s, za_isI_i, za_rf_r, za_rf_n, za_rf_v, za_ck_r, za_isC_eq, zs_f, zs_d, zs_iconst, zs_bipush, zs_sipush, zs_lconst, zs_null, zs_iload_n, zs_iload, zs_aload_n, zs_aload, za_iv_i, zs_iinc, zs_istore_n, zs_istore, zs_astore_n, zs_astore, zs_iadd, zs_isub, zs_imul, zs_iand, zs_ior, zs_ixor, zs_ishl, zs_ishr, zs_idiv, zs_irem, zs_lshl, zs_lshr, zs_land, zs_lor, zs_lstore, za_lg_0, za_lg_s, za_ll_s, za_lc_s, zs_lload_n, zs_lload, zs_ldc, zs_i2l, zs_lcmp, zs_dup, zs_dup_x1, zs_dup2, zs_pop, zs_goto, zs_icmp, zs_ifc, zs_nonnull, zs_acmp_eq, zs_acmp_ne, za_sw_s, zs_switch, za_iaload_s, zs_iaload, za_baload_s, zs_baload, za_laload_s, zs_laload, za_aaload_s, zs_aaload, za_iastore_s, zs_iastore, za_bastore_s, zs_bastore, za_lastore_s, zs_lastore, za_aasN_s, zs_aastoreN, za_aas_s, zs_aastore, za_alg_s, za_alg_n, zs_alen, za_gf_s, za_vl_0, za_vl_s, zs_getfield, za_pf_s, zs_putfield, za_nw_s, za_nw_t, za_tx_1, za_tx_2, zs_th, zs_new, zs_newarray, za_cx_s, zs_checkcast, za_vB_s, za_vA_s, za_sX_s, za_sN_s, za_sA_5, za_sA_6, za_sA_1, za_sA_3, za_oB_s, za_iA_2, za_iA_4, zs_invokevirtual, zs_invokestatic, zs_invokespecial, zs_ireturn, zs_return, zs_areturn, zs_areturnA, za_ex0, za_go_eq, za_fit_i, za_fit_b, za_fit_b0, za_fit_b1, za_fit_r, za_fit_n, za_fit_a, za_up_s, za_upup, za_fn_0, za_fn_1, za_fn_2, za_fn_3, za_cd_eq, za_cd_ne, za_cd_lt, za_cd_ge, za_cd_gt, za_cd_le, za_cat_i, za_cat_r, za_cat_n, zb_n0, zb_n1, zb_narrow, zn_narrow, Option.toList_some, Option.toList_none, List.set_cons_zero, List.set_cons_succ, List.length_cons, List.length_nil, List.take_succ_cons, List.take_zero, List.drop_succ_cons, List.drop_zero, List.reverse_cons, List.reverse_nil, List.nil_append, List.cons_append, List.map_cons, List.map_nil, List.replicate_succ, List.replicate_zero, true_and, and_true, true_or, or_true, false_or, or_false, eq_self, not_true_eq_false, not_false_eq_true, false_implies, true_implies, implies_true, and_self, Nat.zero_add, Nat.add_zero, Nat.le_refl, Nat.zero_le, Nat.reduceEqDiff, if_true, if_false, za_t.eq_1, za_t0.eq_1, Int.cast_ofNat_Int, Int.reduceAdd, Int.reduceToNat, Int.reduceLE, Int.reduceNeg, Nat.reduceAdd, Nat.reduceSub, Nat.reduceBEq, Nat.reduceLT, Nat.reduceLeDiff, ↓reduceIte, Bool.false_eq_true, Bool.or_false, Bool.or_true, Bool.false_or, Bool.true_or, decide_true, decide_false, ge_iff_le, gt_iff_lt, dX7_app_0, dX7_app_1, dX7_app_4, dX7_app_5, dX7_app_8, dX7_app_11, dX7_app_13, dX7_app_16, dX7_app_19, dX7_app_20, dX7_app_22, dX7_app_25, dX7_app_26, dX7_app_27, dX7_app_30, dX7_app_33, dX7_app_34, dX7_app_35, dX7_app_38, dX7_app_41, dX7_app_42, dX7_app_43, dX7_app_46, dX7_app_49, dX7_app_50, dX7_app_51, uX7_f19, uX7_n72, uX7_t72, uX7_m79, uX7_m88, uX7_m99, uX7_s151, uX7_n153, uX7_c153, uX7_m155, zi_b6, zi_i1, (zmk_at J.x), zc_0, hb, (zmk_at hl.1), zc_12]
    refine za_call (mc' := 0) (ms' := 0) (by omega) (by omega) (l_size F (by omega) hl _ ?_)
    simp only [za_lv_0, za_lv_s, za_isI_i, za_rf_r, za_rf_n, za_rf_v, za_ck_r, za_isC_eq, zs_f, zs_d, zs_iconst, zs_bipush, zs_sipush, zs_lconst, zs_null, zs_iload_n, zs_iload, zs_aload_n, zs_aload, za_iv_i, zs_iinc, zs_istore_n, zs_istore, zs_astore_n, zs_astore, zs_iadd, zs_isub, zs_imul, zs_iand, zs_ior, zs_ixor, zs_ishl, zs_ishr, zs_idiv, zs_irem, zs_lshl, zs_lshr, zs_land, zs_lor, zs_lstore, za_lg_0, za_lg_s, za_ll_s, za_lc_s, zs_lload_n, zs_lload, zs_ldc, zs_i2l, zs_lcmp, zs_dup, zs_dup_x1, zs_dup2, zs_pop, zs_goto, zs_icmp, zs_ifc, zs_nonnull, zs_acmp_eq, zs_acmp_ne, za_sw_s, zs_switch, za_iaload_s, zs_iaload, za_baload_s, zs_baload, za_laload_s, zs_laload, za_aaload_s, zs_aaload, za_iastore_s, zs_iastore, za_bastore_s, zs_bastore, za_lastore_s, zs_lastore, za_aasN_s, zs_aastoreN, za_aas_s, zs_aastore, za_alg_s, za_alg_n, zs_alen, za_gf_s, za_vl_0, za_vl_s, zs_getfield, za_pf_s, zs_putfield, za_nw_s, za_nw_t, za_tx_1, za_tx_2, zs_th, zs_new, zs_newarray, za_cx_s, zs_checkcast, za_vB_s, za_vA_s, za_sX_s, za_sN_s, za_sA_5, za_sA_6, za_sA_1, za_sA_3, za_oB_s, za_iA_2, za_iA_4, zs_invokevirtual, zs_invokestatic, zs_invokespecial, zs_ireturn, zs_return, zs_areturn, zs_areturnA, za_ex0, za_go_eq, za_fit_i, za_fit_b, za_fit_b0, za_fit_b1, za_fit_r, za_fit_n, za_fit_a, za_up_s, za_upup, za_fn_0, za_fn_1, za_fn_2, za_fn_3, za_cd_eq, za_cd_ne, za_cd_lt, za_cd_ge, za_cd_gt, za_cd_le, za_cat_i, za_cat_r, za_cat_n, zb_n0, zb_n1, zb_narrow, zn_narrow, Option.toList_some, Option.toList_none, List.set_cons_zero, List.set_cons_succ, List.length_cons, List.length_nil, List.take_succ_cons, List.take_zero, List.drop_succ_cons, List.drop_zero, List.reverse_cons, List.reverse_nil, List.nil_append, List.cons_append, List.map_cons, List.map_nil, List.replicate_succ, List.replicate_zero, true_and, and_true, true_or, or_true, false_or, or_false, eq_self, not_true_eq_false, not_false_eq_true, false_implies, true_implies, implies_true, and_self, Nat.zero_add, Nat.add_zero, Nat.le_refl, Nat.zero_le, Nat.reduceEqDiff, if_true, if_false, za_t.eq_1, za_t0.eq_1, Int.cast_ofNat_Int, Int.reduceAdd, Int.reduceToNat, Int.reduceLE, Int.reduceNeg, Nat.reduceAdd, Nat.reduceSub, Nat.reduceBEq, Nat.reduceLT, Nat.reduceLeDiff, ↓reduceIte, Bool.false_eq_true, Bool.or_false, Bool.or_true, Bool.false_or, Bool.true_or, decide_true, decide_false, ge_iff_le, gt_iff_lt, dX7_app_0, dX7_app_1, dX7_app_4, dX7_app_5, dX7_app_8, dX7_app_11, dX7_app_13, dX7_app_16, dX7_app_19, dX7_app_20, dX7_app_22, dX7_app_25, dX7_app_26, dX7_app_27, dX7_app_30, dX7_app_33, dX7_app_34, dX7_app_35, dX7_app_38, dX7_app_41, dX7_app_42, dX7_app_43, dX7_app_46, dX7_app_49, dX7_app_50, dX7_app_51, uX7_f19, uX7_n72, uX7_t72, uX7_m79, uX7_m88, uX7_m99, uX7_s151, uX7_n153, uX7_c153, uX7_m155, zi_b6, zi_i1, (zmk_at J.x), zc_0, hb, (zmk_at hl.1), zc_12]
    simp (disch := omega) only [zn_lt]
    refine ⟨fun z => ?_, fun z => q1' (by omega)⟩
    have q2' := q2 n (by omega) rfl (by omega)
    intro p hp
    obtain ⟨p1, p2, p3⟩ := zmk_nn hp
    refine za_call (mc' := 1) (ms' := 3) (by omega) (by omega) (m_AppI F (za_up_s _ _ _) _ fun l hln => ?_)
    have hlp : l ≠ p := fun y => by have := hln.1; rw [y, za_up_s] at this; cases this
    have hln2 : za_nn G (zmk A B S T r0) l := ⟨by rw [← hln.1, za_up_n _ _ hlp], hln.2⟩
    obtain ⟨l1, l2, l3⟩ := zmk_nn hln2
    rw [zmk_r0 p1, zmk_r0 l1, zmk_r0 p1]
    have I2 := zJ_r0 (q := p) (e := .inr (1, [.int (nI n), .ref l, .int (nI 0)])) (zJ_r0 (q := l) (e := .inr (0, [.int (nI 0), .ref G.t, .int (nI 0)])) (zJ_r0 (q := p) (e := .inr (1, [.int 0, .null, .int 0])) I p3) l3) p3
    simp only [za_lv_0, za_lv_s, za_isI_i, za_rf_r, za_rf_n, za_rf_v, za_ck_r, za_isC_eq, zs_f, zs_d, zs_iconst, zs_bipush, zs_sipush, zs_lconst, zs_null, zs_iload_n, zs_iload, zs_aload_n, zs_aload, za_iv_i, zs_iinc, zs_istore_n, zs_istore, zs_astore_n, zs_astore, zs_iadd, zs_isub, zs_imul, zs_iand, zs_ior, zs_ixor, zs_ishl, zs_ishr, zs_idiv, zs_irem, zs_lshl, zs_lshr, zs_land, zs_lor, zs_lstore, za_lg_0, za_lg_s, za_ll_s, za_lc_s, zs_lload_n, zs_lload, zs_ldc, zs_i2l, zs_lcmp, zs_dup, zs_dup_x1, zs_dup2, zs_pop, zs_goto, zs_icmp, zs_ifc, zs_nonnull, zs_acmp_eq, zs_acmp_ne, za_sw_s, zs_switch, za_iaload_s, zs_iaload, za_baload_s, zs_baload, za_laload_s, zs_laload, za_aaload_s, zs_aaload, za_iastore_s, zs_iastore, za_bastore_s, zs_bastore, za_lastore_s, zs_lastore, za_aasN_s, zs_aastoreN, za_aas_s, zs_aastore, za_alg_s, za_alg_n, zs_alen, za_gf_s, za_vl_0, za_vl_s, zs_getfield, za_pf_s, zs_putfield, za_nw_s, za_nw_t, za_tx_1, za_tx_2, zs_th, zs_new, zs_newarray, za_cx_s, zs_checkcast, za_vB_s, za_vA_s, za_sX_s, za_sN_s, za_sA_5, za_sA_6, za_sA_1, za_sA_3, za_oB_s, za_iA_2, za_iA_4, zs_invokevirtual, zs_invokestatic, zs_invokespecial, zs_ireturn, zs_return, zs_areturn, zs_areturnA, za_ex0, za_go_eq, za_fit_i, za_fit_b, za_fit_b0, za_fit_b1, za_fit_r, za_fit_n, za_fit_a, za_up_s, za_upup, za_fn_0, za_fn_1, za_fn_2, za_fn_3, za_cd_eq, za_cd_ne, za_cd_lt, za_cd_ge, za_cd_gt, za_cd_le, za_cat_i, za_cat_r, za_cat_n, zb_n0, zb_n1, zb_narrow, zn_narrow, Option.toList_some, Option.toList_none, List.set_cons_zero, List.set_cons_succ, List.length_cons, List.length_nil, List.take_succ_cons, List.take_zero, List.drop_succ_cons, List.drop_zero, List.reverse_cons, List.reverse_nil, List.nil_append, List.cons_append, List.map_cons, List.map_nil, List.replicate_succ, List.replicate_zero, true_and, and_true, true_or, or_true, false_or, or_false, eq_self, not_true_eq_false, not_false_eq_true, false_implies, true_implies, implies_true, and_self, Nat.zero_add, Nat.add_zero, Nat.le_refl, Nat.zero_le, Nat.reduceEqDiff, if_true, if_false, za_t.eq_1, za_t0.eq_1, Int.cast_ofNat_Int, Int.reduceAdd, Int.reduceToNat, Int.reduceLE, Int.reduceNeg, Nat.reduceAdd, Nat.reduceSub, Nat.reduceBEq, Nat.reduceLT, Nat.reduceLeDiff, ↓reduceIte, Bool.false_eq_true, Bool.or_false, Bool.or_true, Bool.false_or, Bool.true_or, decide_true, decide_false, ge_iff_le, gt_iff_lt, dX7_app_0, dX7_app_1, dX7_app_4, dX7_app_5, dX7_app_8, dX7_app_11, dX7_app_13, dX7_app_16, dX7_app_19, dX7_app_20, dX7_app_22, dX7_app_25, dX7_app_26, dX7_app_27, dX7_app_30, dX7_app_33, dX7_app_34, dX7_app_35, dX7_app_38, dX7_app_41, dX7_app_42, dX7_app_43, dX7_app_46, dX7_app_49, dX7_app_50, dX7_app_51, uX7_f19, uX7_n72, uX7_t72, uX7_m79, uX7_m88, uX7_m99, uX7_s151, uX7_n153, uX7_c153, uX7_m155, zi_b6, zi_i1, (zmk_at J.x), zc_0, hb, (zmk_at hl.1), zc_12]
    have hcost : zcost B S 12 0 ≤ 10 := by
      unfold zcost
      split
      · unfold zcap; split <;> omega
      · omega
    refine za_call (mc' := 1) (ms' := zcost B S 12 0) (by omega) (by omega) (p_app (v := p) (l := l) (x := n) F I2 hn p1 p3 l1 l3 hlp (za_up_s _ _ _) (by rw [za_up_n _ _ hlp, za_up_s]) _ fun A' B' r0' X' I' => ?_)
    have J' := I'.1
    have hl' := J'.l (k := 12) (i := 0) rfl
    have hb' := J'.r.1 12 (by omega) (by omega)
    rw [← (X'.1 (0, 0, 0) (Or.inl rfl)).1]
    have s12 : zapp S n 12 0 0 = S 12 0 0 + 1 := zup_s _ _ _ _ _
    simp only [za_lv_0, za_lv_s, za_isI_i, za_rf_r, za_rf_n, za_rf_v, za_ck_r, za_isC_eq, zs_f, zs_d, zs_iconst, zs_bipush, zs_sipush, zs_lconst, zs_null, zs_iload_n, zs_iload, zs_aload_n, zs_aload, za_iv_i, zs_iinc, zs_istore_n, zs_istore, zs_astore_n, zs_astore, zs_iadd, zs_isub, zs_imul, zs_iand, zs_ior, zs_ixor, zs_ishl, zs_ishr, zs_idiv, zs_irem, zs_lshl, zs_lshr, zs_land, zs_lor, zs_lstore, za_lg_0, za_lg_s, za_ll_s, za_lc_s, zs_lload_n, zs_lload, zs_ldc, zs_i2l, zs_lcmp, zs_dup, zs_dup_x1, zs_dup2, zs_pop, zs_goto, zs_icmp, zs_ifc, zs_nonnull, zs_acmp_eq, zs_acmp_ne, za_sw_s, zs_switch, za_iaload_s, zs_iaload, za_baload_s, zs_baload, za_laload_s, zs_laload, za_aaload_s, zs_aaload, za_iastore_s, zs_iastore, za_bastore_s, zs_bastore, za_lastore_s, zs_lastore, za_aasN_s, zs_aastoreN, za_aas_s, zs_aastore, za_alg_s, za_alg_n, zs_alen, za_gf_s, za_vl_0, za_vl_s, zs_getfield, za_pf_s, zs_putfield, za_nw_s, za_nw_t, za_tx_1, za_tx_2, zs_th, zs_new, zs_newarray, za_cx_s, zs_checkcast, za_vB_s, za_vA_s, za_sX_s, za_sN_s, za_sA_5, za_sA_6, za_sA_1, za_sA_3, za_oB_s, za_iA_2, za_iA_4, zs_invokevirtual, zs_invokestatic, zs_invokespecial, zs_ireturn, zs_return, zs_areturn, zs_areturnA, za_ex0, za_go_eq, za_fit_i, za_fit_b, za_fit_b0, za_fit_b1, za_fit_r, za_fit_n, za_fit_a, za_up_s, za_upup, za_fn_0, za_fn_1, za_fn_2, za_fn_3, za_cd_eq, za_cd_ne, za_cd_lt, za_cd_ge, za_cd_gt, za_cd_le, za_cat_i, za_cat_r, za_cat_n, zb_n0, zb_n1, zb_narrow, zn_narrow, Option.toList_some, Option.toList_none, List.set_cons_zero, List.set_cons_succ, List.length_cons, List.length_nil, List.take_succ_cons, List.take_zero, List.drop_succ_cons, List.drop_zero, List.reverse_cons, List.reverse_nil, List.nil_append, List.cons_append, List.map_cons, List.map_nil, List.replicate_succ, List.replicate_zero, true_and, and_true, true_or, or_true, false_or, or_false, eq_self, not_true_eq_false, not_false_eq_true, false_implies, true_implies, implies_true, and_self, Nat.zero_add, Nat.add_zero, Nat.le_refl, Nat.zero_le, Nat.reduceEqDiff, if_true, if_false, za_t.eq_1, za_t0.eq_1, Int.cast_ofNat_Int, Int.reduceAdd, Int.reduceToNat, Int.reduceLE, Int.reduceNeg, Nat.reduceAdd, Nat.reduceSub, Nat.reduceBEq, Nat.reduceLT, Nat.reduceLeDiff, ↓reduceIte, Bool.false_eq_true, Bool.or_false, Bool.or_true, Bool.false_or, Bool.true_or, decide_true, decide_false, ge_iff_le, gt_iff_lt, dX7_app_0, dX7_app_1, dX7_app_4, dX7_app_5, dX7_app_8, dX7_app_11, dX7_app_13, dX7_app_16, dX7_app_19, dX7_app_20, dX7_app_22, dX7_app_25, dX7_app_26, dX7_app_27, dX7_app_30, dX7_app_33, dX7_app_34, dX7_app_35, dX7_app_38, dX7_app_41, dX7_app_42, dX7_app_43, dX7_app_46, dX7_app_49, dX7_app_50, dX7_app_51, uX7_f19, uX7_n72, uX7_t72, uX7_m79, uX7_m88, uX7_m99, uX7_s151, uX7_n153, uX7_c153, uX7_m155, zi_b6, zi_i1, (zmk_at J'.x), zc_0, hb', (zmk_at hl'.1), zc_12]
    refine za_call (mc' := 0) (ms' := 0) (by omega) (by omega) (l_size F (by omega) hl' _ ?_)
    simp only [za_lv_0, za_lv_s, za_isI_i, za_rf_r, za_rf_n, za_rf_v, za_ck_r, za_isC_eq, zs_f, zs_d, zs_iconst, zs_bipush, zs_sipush, zs_lconst, zs_null, zs_iload_n, zs_iload, zs_aload_n, zs_aload, za_iv_i, zs_iinc, zs_istore_n, zs_istore, zs_astore_n, zs_astore, zs_iadd, zs_isub, zs_imul, zs_iand, zs_ior, zs_ixor, zs_ishl, zs_ishr, zs_idiv, zs_irem, zs_lshl, zs_lshr, zs_land, zs_lor, zs_lstore, za_lg_0, za_lg_s, za_ll_s, za_lc_s, zs_lload_n, zs_lload, zs_ldc, zs_i2l, zs_lcmp, zs_dup, zs_dup_x1, zs_dup2, zs_pop, zs_goto, zs_icmp, zs_ifc, zs_nonnull, zs_acmp_eq, zs_acmp_ne, za_sw_s, zs_switch, za_iaload_s, zs_iaload, za_baload_s, zs_baload, za_laload_s, zs_laload, za_aaload_s, zs_aaload, za_iastore_s, zs_iastore, za_bastore_s, zs_bastore, za_lastore_s, zs_lastore, za_aasN_s, zs_aastoreN, za_aas_s, zs_aastore, za_alg_s, za_alg_n, zs_alen, za_gf_s, za_vl_0, za_vl_s, zs_getfield, za_pf_s, zs_putfield, za_nw_s, za_nw_t, za_tx_1, za_tx_2, zs_th, zs_new, zs_newarray, za_cx_s, zs_checkcast, za_vB_s, za_vA_s, za_sX_s, za_sN_s, za_sA_5, za_sA_6, za_sA_1, za_sA_3, za_oB_s, za_iA_2, za_iA_4, zs_invokevirtual, zs_invokestatic, zs_invokespecial, zs_ireturn, zs_return, zs_areturn, zs_areturnA, za_ex0, za_go_eq, za_fit_i, za_fit_b, za_fit_b0, za_fit_b1, za_fit_r, za_fit_n, za_fit_a, za_up_s, za_upup, za_fn_0, za_fn_1, za_fn_2, za_fn_3, za_cd_eq, za_cd_ne, za_cd_lt, za_cd_ge, za_cd_gt, za_cd_le, za_cat_i, za_cat_r, za_cat_n, zb_n0, zb_n1, zb_narrow, zn_narrow, Option.toList_some, Option.toList_none, List.set_cons_zero, List.set_cons_succ, List.length_cons, List.length_nil, List.take_succ_cons, List.take_zero, List.drop_succ_cons, List.drop_zero, List.reverse_cons, List.reverse_nil, List.nil_append, List.cons_append, List.map_cons, List.map_nil, List.replicate_succ, List.replicate_zero, true_and, and_true, true_or, or_true, false_or, or_false, eq_self, not_true_eq_false, not_false_eq_true, false_implies, true_implies, implies_true, and_self, Nat.zero_add, Nat.add_zero, Nat.le_refl, Nat.zero_le, Nat.reduceEqDiff, if_true, if_false, za_t.eq_1, za_t0.eq_1, Int.cast_ofNat_Int, Int.reduceAdd, Int.reduceToNat, Int.reduceLE, Int.reduceNeg, Nat.reduceAdd, Nat.reduceSub, Nat.reduceBEq, Nat.reduceLT, Nat.reduceLeDiff, ↓reduceIte, Bool.false_eq_true, Bool.or_false, Bool.or_true, Bool.false_or, Bool.true_or, decide_true, decide_false, ge_iff_le, gt_iff_lt, dX7_app_0, dX7_app_1, dX7_app_4, dX7_app_5, dX7_app_8, dX7_app_11, dX7_app_13, dX7_app_16, dX7_app_19, dX7_app_20, dX7_app_22, dX7_app_25, dX7_app_26, dX7_app_27, dX7_app_30, dX7_app_33, dX7_app_34, dX7_app_35, dX7_app_38, dX7_app_41, dX7_app_42, dX7_app_43, dX7_app_46, dX7_app_49, dX7_app_50, dX7_app_51, uX7_f19, uX7_n72, uX7_t72, uX7_m79, uX7_m88, uX7_m99, uX7_s151, uX7_n153, uX7_c153, uX7_m155, zi_b6, zi_i1, s12]
    rw [pk_sub (by omega), Nat.add_sub_cancel]
    exact ⟨by omega, q2' A' B' r0' X' I'⟩
  · simp only [za_lv_0, za_lv_s, za_isI_i, za_rf_r, za_rf_n, za_rf_v, za_ck_r, za_isC_eq, zs_f, zs_d, zs_iconst, zs_bipush, zs_sipush, zs_lconst, zs_null, zs_iload_n, zs_iload, zs_aload_n, zs_aload, za_iv_i, zs_iinc, zs_istore_n, zs_istore, zs_astore_n, zs_astore, zs_iadd, zs_isub, zs_imul, zs_iand, zs_ior, zs_ixor, zs_ishl, zs_ishr, zs_idiv, zs_irem, zs_lshl, zs_lshr, zs_land, zs_lor, zs_lstore, za_lg_0, za_lg_s, za_ll_s, za_lc_s, zs_lload_n, zs_lload, zs_ldc, zs_i2l, zs_lcmp, zs_dup, zs_dup_x1, zs_dup2, zs_pop, zs_goto, zs_icmp, zs_ifc, zs_nonnull, zs_acmp_eq, zs_acmp_ne, za_sw_s, zs_switch, za_iaload_s, zs_iaload, za_baload_s, zs_baload, za_laload_s, zs_laload, za_aaload_s, zs_aaload, za_iastore_s, zs_iastore, za_bastore_s, zs_bastore, za_lastore_s, zs_lastore, za_aasN_s, zs_aastoreN, za_aas_s, zs_aastore, za_alg_s, za_alg_n, zs_alen, za_gf_s, za_vl_0, za_vl_s, zs_getfield, za_pf_s, zs_putfield, za_nw_s, za_nw_t, za_tx_1, za_tx_2, zs_th, zs_new, zs_newarray, za_cx_s, zs_checkcast, za_vB_s, za_vA_s, za_sX_s, za_sN_s, za_sA_5, za_sA_6, za_sA_1, za_sA_3, za_oB_s, za_iA_2, za_iA_4, zs_invokevirtual, zs_invokestatic, zs_invokespecial, zs_ireturn, zs_return, zs_areturn, zs_areturnA, za_ex0, za_go_eq, za_fit_i, za_fit_b, za_fit_b0, za_fit_b1, za_fit_r, za_fit_n, za_fit_a, za_up_s, za_upup, za_fn_0, za_fn_1, za_fn_2, za_fn_3, za_cd_eq, za_cd_ne, za_cd_lt, za_cd_ge, za_cd_gt, za_cd_le, za_cat_i, za_cat_r, za_cat_n, zb_n0, zb_n1, zb_narrow, zn_narrow, Option.toList_some, Option.toList_none, List.set_cons_zero, List.set_cons_succ, List.length_cons, List.length_nil, List.take_succ_cons, List.take_zero, List.drop_succ_cons, List.drop_zero, List.reverse_cons, List.reverse_nil, List.nil_append, List.cons_append, List.map_cons, List.map_nil, List.replicate_succ, List.replicate_zero, true_and, and_true, true_or, or_true, false_or, or_false, eq_self, not_true_eq_false, not_false_eq_true, false_implies, true_implies, implies_true, and_self, Nat.zero_add, Nat.add_zero, Nat.le_refl, Nat.zero_le, Nat.reduceEqDiff, if_true, if_false, za_t.eq_1, za_t0.eq_1, Int.cast_ofNat_Int, Int.reduceAdd, Int.reduceToNat, Int.reduceLE, Int.reduceNeg, Nat.reduceAdd, Nat.reduceSub, Nat.reduceBEq, Nat.reduceLT, Nat.reduceLeDiff, ↓reduceIte, Bool.false_eq_true, Bool.or_false, Bool.or_true, Bool.false_or, Bool.true_or, decide_true, decide_false, ge_iff_le, gt_iff_lt, dX7_app_0, dX7_app_1, dX7_app_4, dX7_app_5, dX7_app_8, dX7_app_11, dX7_app_13, dX7_app_16, dX7_app_19, dX7_app_20, dX7_app_22, dX7_app_25, dX7_app_26, dX7_app_27, dX7_app_30, dX7_app_33, dX7_app_34, dX7_app_35, dX7_app_38, dX7_app_41, dX7_app_42, dX7_app_43, dX7_app_46, dX7_app_49, dX7_app_50, dX7_app_51, uX7_f19, uX7_n72, uX7_t72, uX7_m79, uX7_m88, uX7_m99, uX7_s151, uX7_n153, uX7_c153, uX7_m155, zi_b6, zi_i1]
    exact q0 hs
end ZDD
