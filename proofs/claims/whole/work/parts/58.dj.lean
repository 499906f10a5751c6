/-! THE CLASS (36): ask -/
/-- the state with a download in the making -/
def zask (S : zS) (x i : Nat) : zS := zup (zup (zup (zup (zup (zup (zup (zup (zup (zup S 17 (S 19 0 0) 0 0) 18 (S 19 0 0) 0 0) 48 (S 19 0 0) 0 x) 49 (S 19 0 0) 0 i) 50 (S 19 0 0) 0 (S 0 0 0)) 51 (S 19 0 0) 0 0) 52 (S 19 0 0) 0 0) 53 (S 19 0 0) 0 0) 54 (S 19 0 0) 0 0) 19 0 0 (S 19 0 0 + 1)
theorem zask_o (S : zS) (x i : Nat) {f : Nat} (h : ¬ (48 ≤ f ∧ f ≤ 54)) (h7 : f ≠ 17) (h8 : f ≠ 18) (h9 : f ≠ 19) : zask S x i f = S f := by
  unfold zask
  rw [zup_o _ h9, zup_o _ (by omega), zup_o _ (by omega), zup_o _ (by omega), zup_o _ (by omega), zup_o _ (by omega), zup_o _ (by omega), zup_o _ (by omega), zup_o _ h8, zup_o _ h7]
theorem zask_n (S : zS) (x i : Nat) {f d : Nat} (h9 : f ≠ 19) (h : d ≠ S 19 0 0) : zask S x i f d = S f d := by
  funext j
  unfold zask
  rw [zup_o _ h9, zup_n _ (fun z => h z.2.1), zup_n _ (fun z => h z.2.1), zup_n _ (fun z => h z.2.1), zup_n _ (fun z => h z.2.1), zup_n _ (fun z => h z.2.1), zup_n _ (fun z => h z.2.1), zup_n _ (fun z => h z.2.1), zup_n _ (fun z => h z.2.1), zup_n _ (fun z => h z.2.1)]
theorem zask_19 (S : zS) (x i : Nat) : zask S x i 19 0 0 = S 19 0 0 + 1 := zup_s _ _ _ _ _
theorem zask_s (S : zS) (x i : Nat) : zask S x i 17 (S 19 0 0) 0 = 0 ∧ zask S x i 18 (S 19 0 0) 0 = 0 ∧ zask S x i 48 (S 19 0 0) 0 = x ∧ zask S x i 49 (S 19 0 0) 0 = i ∧ zask S x i 50 (S 19 0 0) 0 = S 0 0 0 ∧ zask S x i 51 (S 19 0 0) 0 = 0 ∧ zask S x i 52 (S 19 0 0) 0 = 0 ∧ zask S x i 53 (S 19 0 0) 0 = 0 ∧ zask S x i 54 (S 19 0 0) 0 = 0 := by
  unfold zask
  simp [zup]
section ZDJ
variable {G : za_G} {A : zA} {B : zB} {S : zS} {T : zT} {r0 : za_H}
theorem p_dl (I : zI G A B S r0) {v l l' x i : Nat} (hv : A.2 v = none) (hvt : v ≠ G.t) (hl : A.2 l = none) (hlt : l ≠ G.t) (hlv : l ≠ v) (hl' : A.2 l' = none) (hlt' : l' ≠ G.t) (hlv' : l' ≠ v) (hll : l' ≠ l) (h0 : r0 v = some (.inr (3, [.int (nI (S 19 0 0)), .int (nI x), .int (nI i), .int (nI (S 0 0 0)), .ref l, .ref l', .int (nI 0), .int (nI 0), .int (nI 0), .int (nI 0)]))) (h1 : r0 l = some (.inr (0, [.int (nI 0), .ref G.t, .int (nI 0)]))) (h2 : r0 l' = some (.inr (0, [.int (nI 0), .ref G.t, .int (nI 0)]))) :
    ∃ A' B' r0', zmk A B S T r0 = zmk A' B' (zask S x i) T r0' ∧ zX A B A' B' ∧ zI G A' B' (zask S x i) r0' ∧ A'.1 (5, S 19 0 0, 0) = v := by
  have J := I.1
  obtain ⟨s17, s18, s48, s49, s50, s51, s52, s53, s54⟩ := zask_s S x i
  have s19 := zask_19 S x i
  have so : ∀ f, ¬ (48 ≤ f ∧ f ≤ 54) → f ≠ 17 → f ≠ 18 → f ≠ 19 → zask S x i f = S f := fun f => zask_o S x i
  have sn : ∀ f d, f ≠ 19 → d ≠ S 19 0 0 → zask S x i f d = S f d := fun f d => zask_n S x i
  obtain ⟨A1, r1, e1, f1, n1, L1, a1, o1, p1⟩ := p_lst (B := B) (S := S) (T := T) (k := 17) (i := S 19 0 0) (by omega) J.f J.n hl hlt h1
  obtain ⟨v1, v2⟩ := p1 v hv hlv.symm
  obtain ⟨l1, l2⟩ := p1 l' hl' hll
  rw [h0] at v2
  rw [h2] at l2
  generalize hn : S 19 0 0 = n at *
  generalize hB1 : zBu B 17 n G.t 0 (fun _ => none) (nI 0) = B1 at *
  obtain ⟨A2, r2, e2, f2, n2, L2, a2, o2, p2⟩ := p_lst (B := B1) (S := zup S 17 n 0 0) (T := T) (k := 18) (i := n) (by omega) f1 n1 l1 hlt' l2
  obtain ⟨v3, v4⟩ := p2 v v1 hlv'.symm
  rw [v2] at v4
  generalize hB2 : zBu B1 18 n G.t 0 (fun _ => none) (nI 0) = B2 at *
  generalize hB3 : zbu (zbu B2 4 n 0 l) 5 n 0 l' = B3
  have hS' : zask S x i = zup (zup (zup (zup (zup (zup (zup (zup (zup (zup S 17 n 0 0) 18 n 0 0) 48 n 0 x) 49 n 0 i) 50 n 0 (S 0 0 0)) 51 n 0 0) 52 n 0 0) 53 n 0 0) 54 n 0 0) 19 0 0 (n + 1) := by unfold zask; rw [hn]
  have hcon : ∀ r, r ≠ ((5, n, 0) : zQ) → zcon B3 (zask S x i) T r = zcon B2 (zup (zup S 17 n 0 0) 18 n 0 0) T r := fun r h => by
    rw [hS', zcon_z20 (by omega), zcon_zup (by exact h), zcon_zup (by exact h), zcon_zup (by exact h), zcon_zup (by exact h), zcon_zup (by exact h), zcon_zup (by exact h), zcon_zup (by exact h), ← hB3, zcon_bu (by omega) (by exact h), zcon_bu (by omega) (by exact h)]
  have h35 : B3.1 4 n 0 = l ∧ B3.1 5 n 0 = l' := by
    rw [← hB3, zbu_s, zbu_o _ (by omega), zbu_s]
    exact ⟨rfl, rfl⟩
  have e3 := zmk_ad (A := A2) (B := B2) (S := zup (zup S 17 n 0 0) 18 n 0 0) (T := T) (r0 := r2) (r := (5, n, 0)) (B' := B3) (S' := zask S x i) (T' := T) v3 (by
    rw [v4, zc_5, h35.1, h35.2, s48, s49, s50, s51, s52, s53, s54]) hcon
  refine ⟨zad A2 (5, n, 0) v, B3, zr0 A2 (5, n, 0) (zcon B2 (zup (zup S 17 n 0 0) 18 n 0 0) T (5, n, 0)) r2, e1.trans (e2.trans e3), ?_⟩
  have V3 := zad_V A2 (5, n, 0) v
  have a3 : (zad A2 (5, n, 0) v).1 (5, n, 0) = v := zad_s _ _ _
  have o3 : ∀ r', r' ≠ (5, n, 0) → (zad A2 (5, n, 0) v).1 r' = A2.1 r' ∧ (zV (zad A2 (5, n, 0) v) r' ↔ zV A2 r') := fun r' h => ⟨zad_n _ _ h, zad_Vn v3 h⟩
  have f3 := zad_F f2 (5, n, 0) v
  have n3 : zN G (zad A2 (5, n, 0) v) (zr0 A2 (5, n, 0) (zcon B2 (zup (zup S 17 n 0 0) 18 n 0 0) T (5, n, 0)) r2) := ⟨zad_no n2.1 hvt.symm, by rw [zr0_no n2.1]; exact n2.2⟩
  generalize zad A2 (5, n, 0) v = A3 at *
  generalize zr0 A2 (5, n, 0) (zcon B2 (zup (zup S 17 n 0 0) 18 n 0 0) T (5, n, 0)) r2 = r3 at *
  have w1 : ∀ f', f' ≠ 7 → f' ≠ 8 → f' ≠ 4 → f' ≠ 5 → B3.1 f' = B.1 f' := fun f' a b c d => by
    rw [← hB3, zbu_o _ d, zbu_o _ c, ← hB2, zBu_1 a b, ← hB1, zBu_1 a b]
  have w4 : ∀ d, d ≠ n → B3.1 4 d 0 = B.1 4 d 0 ∧ B3.1 5 d 0 = B.1 5 d 0 := fun d h => by
    rw [← hB3, zbu_n _ (fun y => h y.2.1), zbu_n _ (fun y => h y.2.1), zbu_n _ (fun y => h y.2.1), zbu_n _ (fun y => h y.2.1), ← hB2, zBu_1 (by omega) (by omega), zBu_1 (by omega) (by omega), ← hB1, zBu_1 (by omega) (by omega), zBu_1 (by omega) (by omega)]
    exact ⟨rfl, rfl⟩
  have w7 : ∀ f' k d, f' ≠ 4 → f' ≠ 5 → ¬ (k = 17 ∧ d = n) → ¬ (k = 18 ∧ d = n) → B3.1 f' k d = B.1 f' k d ∧ B3.2.1 k d = B.2.1 k d := fun f' k d a b g1 g2 => by
    obtain ⟨c1, c2, c3⟩ := zBu_n (B := B1) (b := G.t) (cap := 0) (f := fun _ => none) (m := nI 0) (f' := f') g2
    obtain ⟨d1, d2, d3⟩ := zBu_n (B := B) (b := G.t) (cap := 0) (f := fun _ => none) (m := nI 0) (f' := f') g1
    rw [hB2] at c1 c2
    rw [hB1] at d1 d2
    rw [← hB3, zbu_o _ b, zbu_o _ a]
    exact ⟨c1.trans d1, c2.trans d2⟩
  have ga : ∀ r, r ≠ ((5, n, 0) : zQ) → r ≠ (17, n, 0) → r ≠ (17, n, 1) → r ≠ (18, n, 0) → r ≠ (18, n, 1) → A3.1 r = A.1 r ∧ (zV A3 r ↔ zV A r) := fun r h1 h2 h3 h4 h5 => ⟨(o3 r h1).1.trans ((o2 r h4 h5).1.trans (o1 r h2 h3).1), (o3 r h1).2.trans ((o2 r h4 h5).2.trans (o1 r h2 h3).2)⟩
  have L17 : zL G.t A3 B3 (zask S x i) 17 n := by
    have q7 : B3.1 7 17 n = G.t ∧ B3.1 8 17 n = 0 := by
      rw [← hB3, zbu_o _ (by omega), zbu_o _ (by omega), zbu_o _ (by omega), zbu_o _ (by omega), ← hB2, (zBu_n (by omega)).1, (zBu_n (by omega)).1, ← hB1, zBu_s.1, zBu_s.2.1]
      exact ⟨rfl, rfl⟩
    refine ⟨(o3 _ (fun y => by cases y)).2.mpr ((o2 _ (fun y => by cases y) (fun y => by cases y)).2.mpr L1.1), ?_, ?_, ?_, ?_, ?_⟩
    · rw [s17]; omega
    · rw [q7.2]; omega
    · rw [q7.1]; exact fun _ => rfl
    · rw [q7.2]; intro z; omega
    · rw [s17]; intro j hj; omega
  have L18 : zL G.t A3 B3 (zask S x i) 18 n := by
    have q7 : B3.1 7 18 n = G.t ∧ B3.1 8 18 n = 0 := by
      rw [← hB3, zbu_o _ (by omega), zbu_o _ (by omega), zbu_o _ (by omega), zbu_o _ (by omega), ← hB2, zBu_s.1, zBu_s.2.1]
      exact ⟨rfl, rfl⟩
    refine ⟨(o3 _ (fun y => by cases y)).2.mpr L2.1, ?_, ?_, ?_, ?_, ?_⟩
    · rw [s18]; omega
    · rw [q7.2]; omega
    · rw [q7.1]; exact fun _ => rfl
    · rw [q7.2]; intro z; omega
    · rw [s18]; intro j hj; omega
  have s17n : ∀ d, d ≠ n → zask S x i 17 d = S 17 d := fun d h => sn 17 d (by omega) h
  have s18n : ∀ d, d ≠ n → zask S x i 18 d = S 18 d := fun d h => sn 18 d (by omega) h
  refine (fun w => ⟨w.2, w.1, a3⟩) (zI_gen I (fun r => r = (5, n, 0) ∨ r = (17, n, 0) ∨ r = (17, n, 1) ∨ r = (18, n, 0) ∨ r = (18, n, 1)) f3 n3 (fun k i j e => ?_) (fun k i j h7 e => ?_) (fun r e => ?_) (fun k i h e => ?_) (fun k i j k1 k7 h => ?_) (fun k i j k1 k7 h => ?_) (fun k i h => ?_) ?_ ?_ ?_ ?_)
  · rcases e with e | e | e | e | e <;> cases e <;> omega
  · rcases e with e | e | e | e | e
    · cases e
      intro z
      exact (I.2 5 n 0 (by omega) (by omega) z).elim (fun y => by have := y.1; omega) id
    all_goals cases e; omega
  · exact ga r (fun y => e (Or.inl y)) (fun y => e (Or.inr (Or.inl y))) (fun y => e (Or.inr (Or.inr (Or.inl y)))) (fun y => e (Or.inr (Or.inr (Or.inr (Or.inl y))))) (fun y => e (Or.inr (Or.inr (Or.inr (Or.inr y)))))
  · rcases e with e | e | e | e | e
    · cases e; have := zLb_k h; omega
    · cases e; have h : n < S 19 0 0 := h; omega
    · cases e
    · cases e; have h : n < S 19 0 0 := h; omega
    · cases e
  · by_cases g : ((k, i, j) : zQ) = (5, n, 0)
    · rw [g]
      exact Or.inr V3
    · left
      have hk : k = 1 ∨ k = 2 ∨ k = 3 ∨ k = 4 ∨ k = 5 ∨ k = 6 ∨ k = 7 := by omega
      rcases hk with rfl | rfl | rfl | rfl | rfl | rfl | rfl
      · obtain ⟨x1, x2⟩ := h; rw [so 10 (by omega) (by omega) (by omega) (by omega)] at x1; rw [so 15 (by omega) (by omega) (by omega) (by omega)] at x2; exact ⟨x1, x2⟩
      · obtain ⟨x1, x2⟩ := h; rw [so 10 (by omega) (by omega) (by omega) (by omega)] at x1; exact ⟨x1, x2⟩
      · obtain ⟨x1, x2⟩ := h; rw [so 12 (by omega) (by omega) (by omega) (by omega)] at x1; exact ⟨x1, x2⟩
      · obtain ⟨x1, x2⟩ := h; rw [so 13 (by omega) (by omega) (by omega) (by omega)] at x1; exact ⟨x1, x2⟩
      · obtain ⟨x1, x2⟩ := h
        rw [s19] at x1
        refine ⟨?_, x2⟩
        have : i ≠ n := fun y => g (by rw [y, x2])
        omega
      · obtain ⟨x1, x2⟩ := h
        rw [s19] at x1
        by_cases gi : i = n
        · subst gi; rw [s17] at x2; omega
        · rw [s17n i gi] at x2; exact ⟨by omega, x2⟩
      · obtain ⟨x1, x2⟩ := h
        rw [s19] at x1
        by_cases gi : i = n
        · subst gi; rw [s18] at x2; omega
        · rw [s18n i gi] at x2; exact ⟨by omega, x2⟩
  · rcases h with h | h | h | h | h | h
    · have hk : k = 1 ∨ k = 2 ∨ k = 3 ∨ k = 4 ∨ k = 5 ∨ k = 6 ∨ k = 7 := by omega
      rcases hk with rfl | rfl | rfl | rfl | rfl | rfl | rfl
      · obtain ⟨x1, x2⟩ := h; exact ⟨by rw [so 10 (by omega) (by omega) (by omega) (by omega)]; exact x1, by rw [so 15 (by omega) (by omega) (by omega) (by omega)]; exact x2⟩
      · obtain ⟨x1, x2⟩ := h; exact ⟨by rw [so 10 (by omega) (by omega) (by omega) (by omega)]; exact x1, x2⟩
      · obtain ⟨x1, x2⟩ := h; exact ⟨by rw [so 12 (by omega) (by omega) (by omega) (by omega)]; exact x1, x2⟩
      · obtain ⟨x1, x2⟩ := h; exact ⟨by rw [so 13 (by omega) (by omega) (by omega) (by omega)]; exact x1, x2⟩
      · obtain ⟨x1, x2⟩ := h; exact ⟨by rw [s19]; omega, x2⟩
      · obtain ⟨x1, x2⟩ := h; exact ⟨by rw [s19]; omega, by rw [s17n i (by omega)]; exact x2⟩
      · obtain ⟨x1, x2⟩ := h; exact ⟨by rw [s19]; omega, by rw [s18n i (by omega)]; exact x2⟩
    · cases h; exact ⟨by rw [s19]; omega, rfl⟩
    all_goals cases h; omega
  · have hk := zLb_k h
    by_cases h17 : k = 17 ∧ i = n
    · obtain ⟨rfl, rfl⟩ := h17
      exact Or.inr L17
    · by_cases h18 : k = 18 ∧ i = n
      · obtain ⟨rfl, rfl⟩ := h18
        exact Or.inr L18
      · left
        have u7 := w7 7 k i (by omega) (by omega) h17 h18
        have u8 := w7 8 k i (by omega) (by omega) h17 h18
        refine ⟨?_, ?_, u7.1, u8.1, u7.2, ?_, ?_⟩
        · unfold zLb at h ⊢
          rw [s19, so 10 (by omega) (by omega) (by omega) (by omega), so 12 (by omega) (by omega) (by omega) (by omega)] at h
          split at h <;> first | exact h | (show i < S 19 0 0; omega)
        · intro e
          rcases e with e | e | e | e | e <;> cases e <;> omega
        · by_cases g : k = 17 ∨ k = 18
          · rw [sn k i (by omega) (by omega)]
          · rw [so k (by omega) (by omega) (by omega) (by omega)]
        · intro j hj
          unfold zel
          rw [so 20 (by omega) (by omega) (by omega) (by omega), so 21 (by omega) (by omega) (by omega) (by omega)]
  · obtain ⟨t1, t2, t3, t4, t5⟩ := J.r
    refine ⟨fun k k1 k2 => ?_, ?_, fun i hi => ?_, fun a ha => ?_, fun d hd => ?_⟩
    · rw [w1 0 (by omega) (by omega) (by omega) (by omega), (ga _ (fun y => by cases y; omega) (fun y => by cases y; omega) (fun y => by cases y) (fun y => by cases y; omega) (fun y => by cases y)).1]; exact t1 k k1 k2
    · rw [w1 1 (by omega) (by omega) (by omega) (by omega), so 10 (by omega) (by omega) (by omega) (by omega), (ga _ (fun y => by cases y) (fun y => by cases y) (fun y => by cases y) (fun y => by cases y) (fun y => by cases y)).1]; exact t2
    · rw [so 10 (by omega) (by omega) (by omega) (by omega)] at hi
      rw [w1 2 (by omega) (by omega) (by omega) (by omega), (ga _ (fun y => by cases y) (fun y => by cases y) (fun y => by cases y) (fun y => by cases y) (fun y => by cases y)).1]; exact t3 i hi
    · rw [so 12 (by omega) (by omega) (by omega) (by omega)] at ha
      rw [w1 3 (by omega) (by omega) (by omega) (by omega), (ga _ (fun y => by cases y) (fun y => by cases y) (fun y => by cases y) (fun y => by cases y) (fun y => by cases y)).1]; exact t4 a ha
    · rw [s19] at hd
      by_cases g : d = n
      · subst g
        refine ⟨by rw [h35.1, (o3 _ (fun y => by cases y)).1, (o2 _ (fun y => by cases y) (fun y => by cases y)).1, a1], by rw [h35.2, (o3 _ (fun y => by cases y)).1, a2], fun k hk => ?_⟩
        rw [s17] at hk
        omega
      · obtain ⟨u1, u2, u3⟩ := t5 d (by omega)
        refine ⟨?_, ?_, fun k hk => ?_⟩
        · rw [(w4 d g).1, (ga _ (fun y => by cases y) (fun y => by cases y; exact g rfl) (fun y => by cases y) (fun y => by cases y) (fun y => by cases y)).1]; exact u1
        · rw [(w4 d g).2, (ga _ (fun y => by cases y) (fun y => by cases y) (fun y => by cases y) (fun y => by cases y; exact g rfl) (fun y => by cases y)).1]; exact u2
        · rw [s17n d g] at hk
          rw [w1 6 (by omega) (by omega) (by omega) (by omega), sn 49 d (by omega) g, so 55 (by omega) (by omega) (by omega) (by omega), (ga _ (fun y => by cases y) (fun y => by cases y) (fun y => by cases y) (fun y => by cases y) (fun y => by cases y)).1]
          obtain ⟨z1, z2⟩ := u3 k hk
          obtain ⟨x1, x2⟩ := z2
          exact ⟨z1, ⟨by rw [so 10 (by omega) (by omega) (by omega) (by omega)]; exact x1, by rw [so 15 (by omega) (by omega) (by omega) (by omega)]; exact x2⟩⟩
  · rw [so 14 (by omega) (by omega) (by omega) (by omega), s19]; have := J.p; omega
  · rw [w1 10 (by omega) (by omega) (by omega) (by omega)]
  · rw [w1 11 (by omega) (by omega) (by omega) (by omega)]
end ZDJ
