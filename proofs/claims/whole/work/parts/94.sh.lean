/-! THE CALLS (30): ask, the invariant while a download is made -/
section ZSH
variable {S S' : zS} {T T0 : zT} {d : Nat}
theorem zV_ask0 (V : zinv S) {x i : Nat} (h14 : S 14 0 0 = d) (hd : d < 60) (hx : x < 10) (hi : i < S 10 0 0) : zinv (zh1 (zask S x i) d) := by
  obtain ⟨g1, g2, g3, g4, g5⟩ := zv_2 V
  have h19 : S 19 0 0 = d := by omega
  obtain ⟨s17, s18, s48, s49, s50, s51, s52, s53, s54⟩ := zask_s S x i
  have s19 := zask_19 S x i
  rw [h19] at s17 s18 s48 s49 s50 s51 s52 s53 s54 s19
  have t0 := (zv_1 V).1
  have HH : zH (zh1 (zask S x i) d) := zH_zup (zbase V.1 (by omega) (by omega) (by omega) (by omega) x i (by omega) (by omega)).1 (by omega)
  have e14 := zh1_14 (zask S x i) d
  have ho : ∀ f, f ≠ 14 → zh1 (zask S x i) d f = zask S x i f := fun f h => zh1_o _ d h
  have hfo : ∀ f, f ∉ [14, 17, 18, 19, 48, 49, 50, 51, 52, 53, 54] → zh1 (zask S x i) d f = S f := fun f hf => by
    simp only [List.mem_cons, List.not_mem_nil, or_false, not_or] at hf
    rw [ho f hf.1, zask_o S x i (by omega) (by omega) (by omega) (by omega)]
  have en : ∀ f e, f ≠ 14 → f ≠ 19 → e ≠ d → zh1 (zask S x i) d f e = S f e := fun f e h1 h2 he => by
    rw [ho f h1, zask_n S x i h2 (by omega)]
  rw [← ho 17 (by omega)] at s17
  rw [← ho 18 (by omega)] at s18
  rw [← ho 48 (by omega)] at s48
  rw [← ho 49 (by omega)] at s49
  rw [← ho 50 (by omega)] at s50
  rw [← ho 51 (by omega)] at s51
  rw [← ho 52 (by omega)] at s52
  rw [← ho 53 (by omega)] at s53
  rw [← ho 54 (by omega)] at s54
  rw [← ho 19 (by omega)] at s19
  generalize zh1 (zask S x i) d = P at *
  have zpq' : ∀ e k, e ≠ d → zpq P e k = zpq S e k := fun e k he => by
    unfold zpq
    rw [hfo 58 (by decide), hfo 31 (by decide), hfo 55 (by decide), hfo 42 (by decide), en 49 e (by omega) (by omega) he]
  have zso' : ∀ e k, e ≠ d → zso P e k = zso S e k := fun e k he => by
    induction k with
    | zero => rfl
    | succ k ih => unfold zso; rw [ih, zpq' e k he]
  refine ⟨HH, zv_go V.2 [14, 17, 18, 19, 48, 49, 50, 51, 52, 53, 54] [2, 13, 14, 15, 16, 17, 18, 19, 20, 21, 22, 23, 24] hfo (by decide) ?_⟩
  intro k hk
  simp only [List.mem_cons, List.not_mem_nil, or_false] at hk
  rcases hk with rfl | rfl | rfl | rfl | rfl | rfl | rfl | rfl | rfl | rfl | rfl | rfl | rfl
  · show P 10 0 0 ≤ 24 ∧ P 12 0 0 ≤ 6 ∧ P 13 0 0 ≤ 8 ∧ P 14 0 0 ≤ 60 ∧ P 19 0 0 = P 14 0 0
    rw [hfo 10 (by decide), hfo 12 (by decide), hfo 13 (by decide), e14, s19]
    exact ⟨g1, g2, g3, by omega, rfl⟩
  · show ∀ c, P 47 c 0 ≤ 10 * P 14 0 0
    rw [hfo 47 (by decide), e14]
    intro c
    have := zv_13 V c
    omega
  · show ∀ e, e < P 14 0 0 → P 48 e 0 < 10 ∧ P 49 e 0 < P 10 0 0 ∧ P 50 e 0 ≤ P 0 0 0 ∧ P 17 e 0 ≤ 10 ∧ P 18 e 0 ≤ P 3 0 0 ∧ P 53 e 0 < 256 ∧ P 54 e 0 < 32
    rw [e14, hfo 10 (by decide), hfo 0 (by decide), hfo 3 (by decide)]
    intro e he
    by_cases z : e = d
    · subst z
      rw [s48, s49, s50, s17, s18, s53, s54]
      exact ⟨hx, hi, Nat.le_refl _, by omega, by omega, by omega, by omega⟩
    · rw [en 48 e (by omega) (by omega) z, en 49 e (by omega) (by omega) z, en 50 e (by omega) (by omega) z, en 17 e (by omega) (by omega) z, en 18 e (by omega) (by omega) z, en 53 e (by omega) (by omega) z, en 54 e (by omega) (by omega) z]
      exact zv_14 V e (by omega)
  · show ∀ e k, e < P 14 0 0 → k < P 17 e 0 → P 55 e k < P 15 (P 49 e 0) 0 ∧ P 58 e k ≤ P 13 0 0 ∧ P 56 e k = zso P e k ∧ P 57 e k = zso P e (k + 1)
    rw [e14]
    intro e k he hk
    by_cases z : e = d
    · subst z; rw [s17] at hk; omega
    · rw [en 17 e (by omega) (by omega) z] at hk
      rw [hfo 55 (by decide), hfo 15 (by decide), hfo 58 (by decide), hfo 13 (by decide), hfo 56 (by decide), hfo 57 (by decide), en 49 e (by omega) (by omega) z, zso' e _ z, zso' e _ z]
      exact zv_15 V e k (by omega) hk
  · show ∀ e, e < P 14 0 0 → P 51 e 0 = zso P e (P 17 e 0)
    rw [e14]
    intro e he
    by_cases z : e = d
    · subst z; rw [s17, s51]; rfl
    · rw [en 17 e (by omega) (by omega) z, en 51 e (by omega) (by omega) z, zso' e _ z]
      exact zv_16 V e (by omega)
  · show ∀ e k l, e < P 14 0 0 → l < P 17 e 0 → k < l → P 55 e k < P 55 e l
    rw [e14, hfo 55 (by decide)]
    intro e k l he hl hk
    by_cases z : e = d
    · subst z; rw [s17] at hl; omega
    · rw [en 17 e (by omega) (by omega) z] at hl
      exact zv_17 V e k l (by omega) hl hk
  · show ∀ e c, e < P 14 0 0 → ((P 53 e 0).testBit c = true ↔ ∃ k, k < P 17 e 0 ∧ P 58 e k = c + 1)
    rw [e14, hfo 58 (by decide)]
    intro e c he
    by_cases z : e = d
    · subst z
      rw [s53, s17, Nat.zero_testBit]
      exact ⟨fun h => (by cases h), fun ⟨k, h, _⟩ => by omega⟩
    · rw [en 53 e (by omega) (by omega) z, en 17 e (by omega) (by omega) z]
      exact zv_18 V e c (by omega)
  · show ∀ e g, e < P 14 0 0 → ((P 54 e 0).testBit g = true ↔ ∃ k c, k < P 17 e 0 ∧ P 58 e k = c + 1 ∧ P 41 c 0 = g)
    rw [e14, hfo 58 (by decide), hfo 41 (by decide)]
    intro e g he
    by_cases z : e = d
    · subst z
      rw [s54, s17, Nat.zero_testBit]
      exact ⟨fun h => (by cases h), fun ⟨k, c, h, _⟩ => by omega⟩
    · rw [en 54 e (by omega) (by omega) z, en 17 e (by omega) (by omega) z]
      exact zv_19 V e g (by omega)
  · show ∀ e k l, e < P 14 0 0 → k < P 17 e 0 → l < P 17 e 0 → P 58 e k = P 58 e l → P 58 e k ≠ 0 → k = l
    rw [e14, hfo 58 (by decide)]
    intro e k l he hk hl
    by_cases z : e = d
    · subst z; rw [s17] at hk; omega
    · rw [en 17 e (by omega) (by omega) z] at hk hl
      exact zv_20 V e k l (by omega) hk hl
  · show ∀ a b, a < b → b < P 14 0 0 → P 50 a 0 ≤ P 50 b 0
    rw [e14]
    intro a b hab hb
    rw [en 50 a (by omega) (by omega) (by omega)]
    by_cases z : b = d
    · subst z; rw [s50]; exact (zv_14 V a (by omega)).2.2.1
    · rw [en 50 b (by omega) (by omega) z]; exact zv_21 V a b hab (by omega)
  · show ∀ e r, e < P 14 0 0 → r < P 18 e 0 → P 59 e r < P 60 e r ∧ P 60 e r ≤ P 51 e 0
    rw [e14, hfo 59 (by decide), hfo 60 (by decide)]
    intro e r he hr
    by_cases z : e = d
    · subst z; rw [s18] at hr; omega
    · rw [en 18 e (by omega) (by omega) z] at hr
      rw [en 51 e (by omega) (by omega) z]
      exact zv_22 V e r (by omega) hr
  · show ∀ e, e < P 14 0 0 → P 52 e 0 = zlc P e (P 51 e 0)
    rw [e14]
    intro e he
    by_cases z : e = d
    · subst z; rw [s52, s51]; rfl
    · rw [en 52 e (by omega) (by omega) z, en 51 e (by omega) (by omega) z, zv_23 V e (by omega)]
      have : ∀ s, zlc P e s = zlc S e s := fun s => by
        induction s with
        | zero => rfl
        | succ s ih => unfold zlc; rw [ih, zld_S (hfo 59 (by decide)) (hfo 60 (by decide)), en 18 e (by omega) (by omega) z]
      rw [this]
  · show ∀ e k, e < P 14 0 0 → k < P 17 e 0 → P 58 e k ≠ 0 → P 30 (P 49 e 0) (P 55 e k) = 2
    rw [e14, hfo 58 (by decide), hfo 30 (by decide), hfo 55 (by decide)]
    intro e k he hk
    by_cases z : e = d
    · subst z; rw [s17] at hk; omega
    · rw [en 17 e (by omega) (by omega) z] at hk
      rw [en 49 e (by omega) (by omega) z]
      exact zv_24 V e k (by omega) hk
/-- a part goes into the download in the making -/
theorem zV_add (V : zinv (zh1 S d)) (h14 : S 14 0 0 = d) {i j : Nat} (h49 : S 49 d 0 = i) (hj : j < S 15 i 0) (h55 : ∀ k, k < S 17 d 0 → S 55 d k < j) (h17 : S 17 d 0 ≤ j) (h47 : ∀ c, S 47 c 0 ≤ 10 * d + S 17 d 0) (h18 : S 18 d 0 = 0) (h52 : S 52 d 0 = 0) : zinv (zh1 (zadd S d i j) d) := by
  obtain ⟨⟨e17, e51, e55, e56, e57, e58, e53, e54, e47⟩, en, ek⟩ := zadd_e S d i j
  have e14 := zh1_14 (zadd S d i j) d
  have b14 := zh1_14 S d
  have hP : ∀ f, f ≠ 14 → zh1 S d f = S f := fun f h => zh1_o S d h
  have hQ : ∀ f, f ≠ 14 → zh1 (zadd S d i j) d f = zadd S d i j f := fun f h => zh1_o _ d h
  have hko : ∀ f, zkeep f → zadd S d i j f = S f := fun f h => zadd_o S d i j h
  have hzc := zadc_le S d i j
  obtain ⟨g1, g2, g3, g4, g5⟩ := zv_2 V
  rw [hP 13 (by omega)] at g3
  have k14 := zv_14 V d (by rw [b14]; omega)
  rw [hP 48 (by omega), hP 49 (by omega), hP 10 (by omega), hP 50 (by omega), hP 0 (by omega), hP 17 (by omega), hP 18 (by omega), hP 3 (by omega), hP 53 (by omega), hP 54 (by omega), h49] at k14
  obtain ⟨p1, p2, p3, p4, p5, p6, p7⟩ := k14
  have k15 := zv_3 V i (by rw [hP 10 (by omega)]; omega)
  rw [hP 15 (by omega)] at k15
  have k5 := zv_5 V i j
  rw [hP 31 (by omega)] at k5
  have k12 := zv_12 V
  rw [hP 13 (by omega), hP 41 (by omega), hP 42 (by omega)] at k12
  have hlen : zlen S d i j ≤ 999 := zlen_le k5 (fun c hc => (k12 c hc).2.2.2.1)
  have k16 := zv_16 V d (by rw [b14]; omega)
  rw [hP 51 (by omega), hP 17 (by omega)] at k16
  have hso9 : S 51 d 0 ≤ 9990 := by
    have := zso_le V (show d < zh1 S d 14 0 0 by rw [b14]; omega) (S 17 d 0) (by rw [hP 17 (by omega)]; exact Nat.le_refl _)
    omega
  have SM : zsm (zadd S d i j) d := zadd_sm ⟨fun f a b => by
    by_cases z : f = 14
    · subst z
      have := V.1 14 a b
      unfold zh1 zup at this
      by_cases y : a = 0 ∧ b = 0
      · obtain ⟨rfl, rfl⟩ := y; omega
      · rw [if_neg (fun w => y w.2)] at this; exact this
    · have := V.1 f a b
      rw [hP f z] at this; exact this, by omega, by omega⟩ (by omega) hlen (by omega) (by omega) g3 (fun c hc => ⟨by have := h47 c; omega, (k12 c hc).1⟩)
  have HH : zH (zh1 (zadd S d i j) d) := zH_zup SM.1 (by have := V.1 14 0 0; omega)
  have al : ∀ c, zadc S d i j = c + 1 → S 30 i j = 2 ∧ c < S 13 0 0 ∧ (S 54 d 0).testBit (S 41 c 0) = false := fun c hc => by
    unfold zadc at hc
    by_cases z : S 30 i j = 2
    · rw [if_pos z] at hc
      obtain ⟨a1, a2⟩ := zbest_al _ hc
      unfold zalw at a2
      rw [Bool.and_eq_true, Bool.not_eq_true'] at a2
      exact ⟨z, a1, a2.1⟩
    · rw [if_neg z] at hc; cases hc
  have k18 : ∀ c, (S 53 d 0).testBit c = true ↔ ∃ k, k < S 17 d 0 ∧ S 58 d k = c + 1 := fun c => by
    have := zv_18 V d c (by rw [b14]; omega)
    rw [hP 53 (by omega), hP 17 (by omega), hP 58 (by omega)] at this
    exact this
  have k19 : ∀ g, (S 54 d 0).testBit g = true ↔ ∃ k c, k < S 17 d 0 ∧ S 58 d k = c + 1 ∧ S 41 c 0 = g := fun g => by
    have := zv_19 V d g (by rw [b14]; omega)
    rw [hP 54 (by omega), hP 17 (by omega), hP 58 (by omega), hP 41 (by omega)] at this
    exact this
  have fresh : ∀ c, zadc S d i j = c + 1 → ∀ k, k < S 17 d 0 → S 58 d k ≠ c + 1 := fun c hc k hk h => by
    have := (k19 (S 41 c 0)).mpr ⟨k, c, hk, h, rfl⟩
    rw [(al c hc).2.2] at this
    cases this
  have hzpq : ∀ e k, ¬ (e = d ∧ k = S 17 d 0) → zpq (zadd S d i j) e k = zpq S e k := fun e k h => by
    unfold zpq
    rw [hko 31 ⟨by omega, by omega, by omega, by omega⟩, hko 49 ⟨by omega, by omega, by omega, by omega⟩, hko 42 ⟨by omega, by omega, by omega, by omega⟩]
    by_cases z : e = d
    · subst z
      rw [ek 58 k (by omega) (fun y => h ⟨rfl, y⟩), ek 55 k (by omega) (fun y => h ⟨rfl, y⟩)]
    · rw [en 58 e (by omega) z, en 55 e (by omega) z]
  have hzp0 : zpq (zadd S d i j) d (S 17 d 0) = zlen S d i j := by
    unfold zpq zlen
    rw [e58, e55, hko 31 ⟨by omega, by omega, by omega, by omega⟩, hko 49 ⟨by omega, by omega, by omega, by omega⟩, hko 42 ⟨by omega, by omega, by omega, by omega⟩, h49]
  have hzso : ∀ e k, (e = d → k ≤ S 17 d 0) → zso (zadd S d i j) e k = zso S e k := fun e k => by
    induction k with
    | zero => intro _; rfl
    | succ k ih =>
      intro h
      unfold zso
      rw [ih (fun y => by have := h y; omega), hzpq e k (fun y => by have := h y.1; omega)]
  have hso1 : ∀ S2 : zS, ∀ e k, zso (zh1 S2 d) e k = zso S2 e k := fun S2 e k => zso_S (zh1_o S2 d (by omega)) (zh1_o S2 d (by omega)) (zh1_o S2 d (by omega)) (zh1_o S2 d (by omega)) (zh1_o S2 d (by omega)) e k
  rw [hso1] at k16
  have hend : zso (zadd S d i j) d (S 17 d 0 + 1) = S 51 d 0 + zlen S d i j := by
    show zso (zadd S d i j) d (S 17 d 0) + zpq (zadd S d i j) d (S 17 d 0) = _
    rw [hzso d _ (fun _ => Nat.le_refl _), hzp0, ← k16]
  have oV := fun k => V.2 k
  refine ⟨HH, zv_go V.2 [47, 53, 54, 55, 56, 57, 58, 17, 51] [13, 14, 15, 16, 17, 18, 19, 20, 22, 23, 24] (fun f hf => ?_) (by decide) ?_⟩
  · simp only [List.mem_cons, List.not_mem_nil, or_false, not_or] at hf
    by_cases z : f = 14
    · subst z
      unfold zh1
      funext a b
      unfold zup
      rw [hko 14 ⟨by omega, by omega, by omega, by omega⟩]
    · rw [hQ f z, hP f z, hko f ⟨by omega, by omega, by omega, by omega⟩]
  intro k hk
  simp only [List.mem_cons, List.not_mem_nil, or_false] at hk
  rcases hk with rfl | rfl | rfl | rfl | rfl | rfl | rfl | rfl | rfl | rfl | rfl
  · show ∀ c, zh1 (zadd S d i j) d 47 c 0 ≤ 10 * zh1 (zadd S d i j) d 14 0 0
    rw [hQ 47 (by omega), e14]
    intro c
    have := h47 c
    rw [e47]
    split <;> omega
  · show ∀ e, e < zh1 (zadd S d i j) d 14 0 0 → zh1 (zadd S d i j) d 48 e 0 < 10 ∧ zh1 (zadd S d i j) d 49 e 0 < zh1 (zadd S d i j) d 10 0 0 ∧ zh1 (zadd S d i j) d 50 e 0 ≤ zh1 (zadd S d i j) d 0 0 0 ∧ zh1 (zadd S d i j) d 17 e 0 ≤ 10 ∧ zh1 (zadd S d i j) d 18 e 0 ≤ zh1 (zadd S d i j) d 3 0 0 ∧ zh1 (zadd S d i j) d 53 e 0 < 256 ∧ zh1 (zadd S d i j) d 54 e 0 < 32
    rw [e14, hQ 48 (by omega), hQ 49 (by omega), hQ 10 (by omega), hQ 50 (by omega), hQ 0 (by omega), hQ 17 (by omega), hQ 18 (by omega), hQ 3 (by omega), hQ 53 (by omega), hQ 54 (by omega), hko 48 ⟨by omega, by omega, by omega, by omega⟩, hko 49 ⟨by omega, by omega, by omega, by omega⟩, hko 10 ⟨by omega, by omega, by omega, by omega⟩, hko 50 ⟨by omega, by omega, by omega, by omega⟩, hko 0 ⟨by omega, by omega, by omega, by omega⟩, hko 18 ⟨by omega, by omega, by omega, by omega⟩, hko 3 ⟨by omega, by omega, by omega, by omega⟩]
    intro e he
    by_cases z : e = d
    · subst z
      rw [e17, h49]
      exact ⟨p1, p2, p3, by omega, p5, SM.2.1, SM.2.2⟩
    · have := zv_14 V e (by rw [b14]; exact he)
      rw [hP 48 (by omega), hP 49 (by omega), hP 10 (by omega), hP 50 (by omega), hP 0 (by omega), hP 17 (by omega), hP 18 (by omega), hP 3 (by omega), hP 53 (by omega), hP 54 (by omega)] at this
      rw [en 17 e (by omega) z, en 53 e (by omega) z, en 54 e (by omega) z]
      exact this
  · show ∀ e k, e < zh1 (zadd S d i j) d 14 0 0 → k < zh1 (zadd S d i j) d 17 e 0 → zh1 (zadd S d i j) d 55 e k < zh1 (zadd S d i j) d 15 (zh1 (zadd S d i j) d 49 e 0) 0 ∧ zh1 (zadd S d i j) d 58 e k ≤ zh1 (zadd S d i j) d 13 0 0 ∧ zh1 (zadd S d i j) d 56 e k = zso (zh1 (zadd S d i j) d) e k ∧ zh1 (zadd S d i j) d 57 e k = zso (zh1 (zadd S d i j) d) e (k + 1)
    rw [e14, hQ 17 (by omega), hQ 55 (by omega), hQ 15 (by omega), hQ 49 (by omega), hQ 58 (by omega), hQ 13 (by omega), hQ 56 (by omega), hQ 57 (by omega), hko 15 ⟨by omega, by omega, by omega, by omega⟩, hko 49 ⟨by omega, by omega, by omega, by omega⟩, hko 13 ⟨by omega, by omega, by omega, by omega⟩]
    intro e k he hk
    rw [hso1, hso1]
    by_cases z : e = d ∧ k = S 17 d 0
    · obtain ⟨rfl, rfl⟩ := z
      rw [e55, e58, e56, e57, h49, hend, hzso e _ (fun _ => Nat.le_refl _)]
      exact ⟨hj, hzc, k16, rfl⟩
    · have hk' : k < S 17 e 0 := by
        by_cases y : e = d
        · subst y; rw [e17] at hk; have : k ≠ S 17 e 0 := fun w => z ⟨rfl, w⟩; omega
        · rw [en 17 e (by omega) y] at hk; exact hk
      have := zv_15 V e k (by rw [b14]; exact he) (by rw [hP 17 (by omega)]; exact hk')
      rw [hP 55 (by omega), hP 15 (by omega), hP 49 (by omega), hP 58 (by omega), hP 13 (by omega), hP 56 (by omega), hP 57 (by omega), hso1, hso1] at this
      have f4 : ∀ f, f = 55 ∨ f = 56 ∨ f = 57 ∨ f = 58 → zadd S d i j f e k = S f e k := fun f hf => by
        by_cases y : e = d
        · subst y; exact ek f k hf (fun w => z ⟨rfl, w⟩)
        · rw [en f e (by omega) y]
      rw [f4 55 (by omega), f4 56 (by omega), f4 57 (by omega), f4 58 (by omega), hzso e k (fun y => by subst y; omega), hzso e (k + 1) (fun y => by subst y; omega)]
      exact this
  · show ∀ e, e < zh1 (zadd S d i j) d 14 0 0 → zh1 (zadd S d i j) d 51 e 0 = zso (zh1 (zadd S d i j) d) e (zh1 (zadd S d i j) d 17 e 0)
    rw [e14, hQ 51 (by omega), hQ 17 (by omega)]
    intro e he
    rw [hso1]
    by_cases z : e = d
    · subst z; rw [e51, e17, hend]
    · have := zv_16 V e (by rw [b14]; exact he)
      rw [hP 51 (by omega), hP 17 (by omega), hso1] at this
      rw [en 51 e (by omega) z, en 17 e (by omega) z, hzso e _ (fun y => absurd y z)]
      exact this
  · show ∀ e k l, e < zh1 (zadd S d i j) d 14 0 0 → l < zh1 (zadd S d i j) d 17 e 0 → k < l → zh1 (zadd S d i j) d 55 e k < zh1 (zadd S d i j) d 55 e l
    rw [e14, hQ 17 (by omega), hQ 55 (by omega)]
    intro e k l he hl hkl
    have this := fun h => zv_17 V e k l (by rw [b14]; exact he) h hkl
    rw [hP 17 (by omega), hP 55 (by omega)] at this
    by_cases z : e = d
    · subst z
      rw [e17] at hl
      rw [ek 55 k (by omega) (by omega)]
      by_cases y : l = S 17 e 0
      · subst y; rw [e55]; exact h55 k hkl
      · rw [ek 55 l (by omega) y]; exact this (by omega)
    · rw [en 17 e (by omega) z] at hl
      rw [en 55 e (by omega) z]
      exact this hl
  · show ∀ e c, e < zh1 (zadd S d i j) d 14 0 0 → ((zh1 (zadd S d i j) d 53 e 0).testBit c = true ↔ ∃ k, k < zh1 (zadd S d i j) d 17 e 0 ∧ zh1 (zadd S d i j) d 58 e k = c + 1)
    rw [e14, hQ 53 (by omega), hQ 17 (by omega), hQ 58 (by omega)]
    intro e c he
    by_cases z : e = d
    · subst z
      rw [e53, e17]
      by_cases y : zadc S e i j = 0
      · rw [if_pos y, k18 c]
        constructor
        · rintro ⟨k, h1, h2⟩; exact ⟨k, by omega, by rw [ek 58 k (by omega) (by omega)]; exact h2⟩
        · rintro ⟨k, h1, h2⟩
          by_cases w : k = S 17 e 0
          · subst w; rw [e58, y] at h2; omega
          · rw [ek 58 k (by omega) w] at h2; exact ⟨k, by omega, h2⟩
      · rw [if_neg y, zor_t, Bool.or_eq_true, k18 c, decide_eq_true_iff]
        constructor
        · rintro (⟨k, h1, h2⟩ | h)
          · exact ⟨k, by omega, by rw [ek 58 k (by omega) (by omega)]; exact h2⟩
          · exact ⟨S 17 e 0, by omega, by rw [e58]; omega⟩
        · rintro ⟨k, h1, h2⟩
          by_cases w : k = S 17 e 0
          · subst w; rw [e58] at h2; exact Or.inr (by omega)
          · rw [ek 58 k (by omega) w] at h2; exact Or.inl ⟨k, by omega, h2⟩
    · have := zv_18 V e c (by rw [b14]; exact he)
      rw [hP 53 (by omega), hP 17 (by omega), hP 58 (by omega)] at this
      rw [en 53 e (by omega) z, en 17 e (by omega) z, en 58 e (by omega) z]
      exact this
  · show ∀ e g, e < zh1 (zadd S d i j) d 14 0 0 → ((zh1 (zadd S d i j) d 54 e 0).testBit g = true ↔ ∃ k c, k < zh1 (zadd S d i j) d 17 e 0 ∧ zh1 (zadd S d i j) d 58 e k = c + 1 ∧ zh1 (zadd S d i j) d 41 c 0 = g)
    rw [e14, hQ 54 (by omega), hQ 17 (by omega), hQ 58 (by omega), hQ 41 (by omega), hko 41 ⟨by omega, by omega, by omega, by omega⟩]
    intro e g he
    by_cases z : e = d
    · subst z
      rw [e54, e17]
      by_cases y : zadc S e i j = 0
      · rw [if_pos y, k19 g]
        constructor
        · rintro ⟨k, c, h1, h2, h3⟩; exact ⟨k, c, by omega, by rw [ek 58 k (by omega) (by omega)]; exact h2, h3⟩
        · rintro ⟨k, c, h1, h2, h3⟩
          by_cases w : k = S 17 e 0
          · subst w; rw [e58, y] at h2; omega
          · rw [ek 58 k (by omega) w] at h2; exact ⟨k, c, by omega, h2, h3⟩
      · rw [if_neg y, zor_t, Bool.or_eq_true, k19 g, decide_eq_true_iff]
        constructor
        · rintro (⟨k, c, h1, h2, h3⟩ | h)
          · exact ⟨k, c, by omega, by rw [ek 58 k (by omega) (by omega)]; exact h2, h3⟩
          · exact ⟨S 17 e 0, zadc S e i j - 1, by omega, by rw [e58]; omega, h.symm⟩
        · rintro ⟨k, c, h1, h2, h3⟩
          by_cases w : k = S 17 e 0
          · subst w; rw [e58] at h2; exact Or.inr (by rw [← h3, h2, Nat.add_sub_cancel])
          · rw [ek 58 k (by omega) w] at h2; exact Or.inl ⟨k, c, by omega, h2, h3⟩
    · have := zv_19 V e g (by rw [b14]; exact he)
      rw [hP 54 (by omega), hP 17 (by omega), hP 58 (by omega), hP 41 (by omega)] at this
      rw [en 54 e (by omega) z, en 17 e (by omega) z, en 58 e (by omega) z]
      exact this
  · show ∀ e k l, e < zh1 (zadd S d i j) d 14 0 0 → k < zh1 (zadd S d i j) d 17 e 0 → l < zh1 (zadd S d i j) d 17 e 0 → zh1 (zadd S d i j) d 58 e k = zh1 (zadd S d i j) d 58 e l → zh1 (zadd S d i j) d 58 e k ≠ 0 → k = l
    rw [e14, hQ 17 (by omega), hQ 58 (by omega)]
    intro e k l he hk hl
    have this := fun h1 h2 => zv_20 V e k l (by rw [b14]; exact he) h1 h2
    rw [hP 17 (by omega), hP 58 (by omega)] at this
    by_cases z : e = d
    · subst z
      rw [e17] at hk hl
      intro h h0
      have fr : ∀ m, m < S 17 e 0 → S 58 e m = zadc S e i j → zadc S e i j ≠ 0 → False := fun m hm h h0 => fresh (zadc S e i j - 1) (by omega) m hm (by omega)
      by_cases a : k = S 17 e 0
      · by_cases b : l = S 17 e 0
        · omega
        · subst a
          rw [e58] at h h0
          rw [ek 58 l (by omega) b] at h
          exact (fr l (by omega) h.symm h0).elim
      · rw [ek 58 k (by omega) a] at h h0
        by_cases b : l = S 17 e 0
        · subst b
          rw [e58] at h
          exact (fr k (by omega) h (by omega)).elim
        · rw [ek 58 l (by omega) b] at h
          exact this (by omega) (by omega) h h0
    · rw [en 17 e (by omega) z] at hk hl
      rw [en 58 e (by omega) z]
      exact this hk hl
  · show ∀ e r, e < zh1 (zadd S d i j) d 14 0 0 → r < zh1 (zadd S d i j) d 18 e 0 → zh1 (zadd S d i j) d 59 e r < zh1 (zadd S d i j) d 60 e r ∧ zh1 (zadd S d i j) d 60 e r ≤ zh1 (zadd S d i j) d 51 e 0
    rw [e14, hQ 18 (by omega), hQ 59 (by omega), hQ 60 (by omega), hQ 51 (by omega), hko 18 ⟨by omega, by omega, by omega, by omega⟩, hko 59 ⟨by omega, by omega, by omega, by omega⟩, hko 60 ⟨by omega, by omega, by omega, by omega⟩]
    intro e r he hr
    by_cases z : e = d
    · subst z; omega
    · have := zv_22 V e r (by rw [b14]; exact he) (by rw [hP 18 (by omega)]; exact hr)
      rw [hP 59 (by omega), hP 60 (by omega), hP 51 (by omega)] at this
      rw [en 51 e (by omega) z]
      exact this
  · show ∀ e, e < zh1 (zadd S d i j) d 14 0 0 → zh1 (zadd S d i j) d 52 e 0 = zlc (zh1 (zadd S d i j) d) e (zh1 (zadd S d i j) d 51 e 0)
    rw [e14, hQ 52 (by omega), hQ 51 (by omega), hko 52 ⟨by omega, by omega, by omega, by omega⟩]
    intro e he
    have hlc : ∀ s, zlc (zh1 (zadd S d i j) d) e s = zlc S e s := fun s => (zlc_S (zh1_o _ d (by omega)) (zh1_o _ d (by omega)) (zh1_o _ d (by omega)) e s).trans (zlc_S (hko 18 ⟨by omega, by omega, by omega, by omega⟩) (hko 59 ⟨by omega, by omega, by omega, by omega⟩) (hko 60 ⟨by omega, by omega, by omega, by omega⟩) e s)
    rw [hlc]
    by_cases z : e = d
    · subst z
      rw [h52]
      have : ∀ s, zlc S e s = 0 := fun s => by
        induction s with
        | zero => rfl
        | succ s ih => unfold zlc; rw [ih, h18]; rfl
      rw [this]
    · have := zv_23 V e (by rw [b14]; exact he)
      rw [hP 52 (by omega), hP 51 (by omega), zlc_S (zh1_o S d (by omega)) (zh1_o S d (by omega)) (zh1_o S d (by omega))] at this
      rw [en 51 e (by omega) z]
      exact this
  · show ∀ e k, e < zh1 (zadd S d i j) d 14 0 0 → k < zh1 (zadd S d i j) d 17 e 0 → zh1 (zadd S d i j) d 58 e k ≠ 0 → zh1 (zadd S d i j) d 30 (zh1 (zadd S d i j) d 49 e 0) (zh1 (zadd S d i j) d 55 e k) = 2
    rw [e14, hQ 17 (by omega), hQ 58 (by omega), hQ 30 (by omega), hQ 49 (by omega), hQ 55 (by omega), hko 30 ⟨by omega, by omega, by omega, by omega⟩, hko 49 ⟨by omega, by omega, by omega, by omega⟩]
    intro e k he hk
    have this := fun h => zv_24 V e k (by rw [b14]; exact he) h
    rw [hP 17 (by omega), hP 58 (by omega), hP 30 (by omega), hP 49 (by omega), hP 55 (by omega)] at this
    by_cases z : e = d
    · subst z
      rw [e17] at hk
      by_cases y : k = S 17 e 0
      · subst y
        rw [e58, e55, h49]
        exact fun h => (al (zadc S e i j - 1) (by omega)).1
      · rw [ek 58 k (by omega) y, ek 55 k (by omega) y]
        exact this (by omega)
    · rw [en 17 e (by omega) z] at hk
      rw [en 58 e (by omega) z, en 55 e (by omega) z]
      exact this hk
end ZSH
