/-! THE CALLS (19): load -/
def sp_load (S : zS) (x y z : Int32) : Nat × Int32 × zS :=
  if ¬ (0 ≤ x.toInt ∧ x.toInt < S 14 0 0) then (1, nI 0, S) else if ¬ (0 ≤ y.toInt ∧ y.toInt < z.toInt ∧ z.toInt ≤ S 51 x.toInt.toNat 0) then (2, nI 0, S) else if 200 ≤ S 3 0 0 then (3, nI 0, S) else (0, nI (zlog (zup S 3 0 0 (S 3 0 0 + 1)) x.toInt.toNat y.toInt.toNat z.toInt.toNat 52 x.toInt.toNat 0), zlog (zup S 3 0 0 (S 3 0 0 + 1)) x.toInt.toNat y.toInt.toNat z.toInt.toNat)
section ZRW
variable {S S' : zS} {T T' : zT}
theorem zld_i {d s : Nat} : ∀ n, (∀ r, r < n → S' 59 d r = S 59 d r ∧ S' 60 d r = S 60 d r) → zld S' d s n = zld S d s n := by
  intro n
  induction n with
  | zero => intro _; rfl
  | succ n ih =>
    intro h
    unfold zld
    rw [ih (fun r hr => h r (by omega)), (h n (by omega)).1, (h n (by omega)).2]
theorem zmr_i {d s : Nat} : ∀ n, (∀ k, k < n → T'.1 46 k = T.1 46 k ∧ T'.1 47 k = T.1 47 k ∧ T'.1 48 k = T.1 48 k) → zmr T' d s n = zmr T d s n := by
  intro n
  induction n with
  | zero => intro _; rfl
  | succ n ih =>
    intro h
    obtain ⟨h1, h2, h3⟩ := h n (by omega)
    unfold zmr
    rw [ih (fun r hr => h r (by omega)), h1, h2, h3]
/-- the state after a load, field by field -/
theorem zlog_e (d f t : Nat) (hft : f ≤ t) : (zlog (zup S 3 0 0 (S 3 0 0 + 1)) d f t 3 0 0 = S 3 0 0 + 1) ∧ (zlog (zup S 3 0 0 (S 3 0 0 + 1)) d f t 18 d 0 = S 18 d 0 + 1) ∧ (zlog (zup S 3 0 0 (S 3 0 0 + 1)) d f t 59 d (S 18 d 0) = f) ∧ (zlog (zup S 3 0 0 (S 3 0 0 + 1)) d f t 60 d (S 18 d 0) = t) ∧ (zlog (zup S 3 0 0 (S 3 0 0 + 1)) d f t 52 d 0 = S 52 d 0 + (t - f - (zlc S d t - zlc S d f))) ∧ (∀ g i j, g ≠ 3 → ¬ (i = d ∧ (g = 52 ∨ g = 18 ∨ ((g = 59 ∨ g = 60) ∧ j = S 18 d 0))) → zlog (zup S 3 0 0 (S 3 0 0 + 1)) d f t g i j = S g i j) := by
  have e18 : zup S 3 0 0 (S 3 0 0 + 1) 18 = S 18 := zup_o S (by omega)
  have e52 : zup S 3 0 0 (S 3 0 0 + 1) 52 = S 52 := zup_o S (by omega)
  have ez : zlin (zup S 3 0 0 (S 3 0 0 + 1)) d t (t - f) f = zlc S d t - zlc S d f := by
    rw [zlin_e d hft, zlc_S (zup_o S (by omega)) (zup_o S (by omega)) (zup_o S (by omega)), zlc_S (zup_o S (by omega)) (zup_o S (by omega)) (zup_o S (by omega))]
  unfold zlog
  rw [ez, e18, e52]
  refine ⟨?_, ?_, ?_, ?_, ?_, fun g i j hg h => ?_⟩
  · rw [zup_o _ (by omega), zup_o _ (by omega), zup_o _ (by omega), zup_o _ (by omega), zup_s]
  · exact zup_s _ _ _ _ _
  · rw [zup_o _ (by omega), zup_o _ (by omega), zup_s]
  · rw [zup_o _ (by omega), zup_s]
  · rw [zup_o _ (by omega), zup_o _ (by omega), zup_o _ (by omega), zup_s]
  · rw [zup_n _ (fun z => h ⟨z.2.1, by omega⟩), zup_n _ (fun z => h ⟨z.2.1, by omega⟩), zup_n _ (fun z => h ⟨z.2.1, by omega⟩), zup_n _ (fun z => h ⟨z.2.1, by omega⟩), zup_o S hg]
theorem zlog_o (d f t : Nat) {g : Nat} (h : g ∉ [3, 52, 59, 60, 18]) : zlog (zup S 3 0 0 (S 3 0 0 + 1)) d f t g = S g := by
  simp only [List.mem_cons, List.not_mem_nil, or_false, not_or] at h
  obtain ⟨h1, h2, h3, h4, h5⟩ := h
  unfold zlog
  rw [zup_o _ h5, zup_o _ h4, zup_o _ h3, zup_o _ h2, zup_o S h1]
theorem zlog_ld (d f t s : Nat) (hft : f ≤ t) : zld (zlog (zup S 3 0 0 (S 3 0 0 + 1)) d f t) d s (S 18 d 0 + 1) = (zld S d s (S 18 d 0) || (decide (f ≤ s) && decide (s < t))) := by
  obtain ⟨e3, e18, e59, e60, e52, en⟩ := zlog_e (S := S) d f t hft
  generalize zlog (zup S 3 0 0 (S 3 0 0 + 1)) d f t = S' at *
  rw [show zld S' d s (S 18 d 0 + 1) = (zld S' d s (S 18 d 0) || (decide (S' 59 d (S 18 d 0) ≤ s) && decide (s < S' 60 d (S 18 d 0)))) from rfl, e59, e60, zld_i (S := S) (S 18 d 0) (fun r hr => ⟨en 59 d r (by omega) (fun z => by omega), en 60 d r (by omega) (fun z => by omega)⟩)]
theorem zlog_c (d f t : Nat) (hft : f ≤ t) : ∀ s, zlc (zlog (zup S 3 0 0 (S 3 0 0 + 1)) d f t) d s = zlc S d s + (if s ≤ f then 0 else (min s t - f) - (zlc S d (min s t) - zlc S d f)) := by
  have e18 := (zlog_e (S := S) d f t hft).2.1
  have el := fun s => zlog_ld (S := S) d f t s hft
  generalize zlog (zup S 3 0 0 (S 3 0 0 + 1)) d f t = S' at *
  intro s
  induction s with
  | zero => rfl
  | succ s ih =>
    have e1 : zlc S' d (s + 1) = zlc S' d s + (if zld S' d s (S' 18 d 0) = true then 1 else 0) := rfl
    have e2 : zlc S d (s + 1) = zlc S d s + (if zld S d s (S 18 d 0) = true then 1 else 0) := rfl
    rw [e1, ih, e18, el s]
    by_cases a : s < f
    · rw [if_pos (show s ≤ f by omega), if_pos (show s + 1 ≤ f by omega), decide_eq_false (show ¬ f ≤ s by omega), Bool.false_and, Bool.or_false, e2]; omega
    · by_cases b : s < t
      · have hm := zlc_m (S := S) d f (s - f)
        rw [show f + (s - f) = s by omega] at hm
        rw [if_neg (show ¬ s + 1 ≤ f by omega), decide_eq_true (show f ≤ s by omega), decide_eq_true b, Bool.and_true, Bool.or_true, if_pos rfl, show min (s + 1) t = s + 1 by omega, show min s t = s by omega]
        by_cases c : zld S d s (S 18 d 0) = true
        · rw [if_pos c] at e2
          split <;> omega
        · rw [if_neg c] at e2
          split <;> omega
      · rw [decide_eq_false b, Bool.and_false, Bool.or_false, e2, if_neg (show ¬ s + 1 ≤ f by omega), show min (s + 1) t = t by omega, show min s t = t by omega]
        by_cases c : s ≤ f
        · rw [if_pos c]
          have : t = f := by omega
          subst this
          omega
        · rw [if_neg c]; omega
theorem zV_load (V : zinv S) {d f t : Nat} (hd : d < S 14 0 0) (hft : f < t) (ht : t ≤ S 51 d 0) (h3 : S 3 0 0 < 200) : zinv (zlog (zup S 3 0 0 (S 3 0 0 + 1)) d f t) := by
  obtain ⟨e3, e18, e59, e60, e52, en⟩ := zlog_e (S := S) d f t (by omega)
  have ec := zlog_c (S := S) d f t (by omega)
  have hfo := fun g h => zlog_o (S := S) d f t (g := g) h
  have h51 : S 51 d 0 ≤ 9990 := by
    obtain ⟨p1, p2, p3, p4, p5⟩ := zv_14 V d hd
    have := zso_le V hd (S 17 d 0) (Nat.le_refl _)
    rw [zv_16 V d hd]
    omega
  have h52 := zv_23 V d hd
  have hm51 := zlc_m (S := S) d 0 (S 51 d 0)
  rw [Nat.zero_add, show zlc S d 0 = 0 from rfl] at hm51
  have HH : zH (zlog (zup S 3 0 0 (S 3 0 0 + 1)) d f t) := fun g i j => by
    by_cases a : g = 3
    · subst a
      unfold zlog
      rw [zup_o _ (by omega), zup_o _ (by omega), zup_o _ (by omega), zup_o _ (by omega)]
      unfold zup
      split
      · omega
      · exact V.1 3 i j
    · by_cases b : i = d ∧ (g = 52 ∨ g = 18 ∨ ((g = 59 ∨ g = 60) ∧ j = S 18 d 0))
      · obtain ⟨rfl, c⟩ := b
        by_cases hz : j = 0 ∨ g = 59 ∨ g = 60
        · rcases c with rfl | rfl | ⟨rfl | rfl, rfl⟩
          · have : j = 0 := by omega
            subst this; rw [e52]; omega
          · have : j = 0 := by omega
            subst this; rw [e18]; have := V.1 18 i 0; have := (zv_14 V i hd).2.2.2.2.1; omega
          · rw [e59]; omega
          · rw [e60]; omega
        · have : zlog (zup S 3 0 0 (S 3 0 0 + 1)) i f t g i j = S g i j := by
            unfold zlog
            rw [zup_n _ (by omega), zup_n _ (by omega), zup_n _ (by omega), zup_n _ (by omega), zup_o S a]
          rw [this]; exact V.1 g i j
      · rw [en g i j a b]; exact V.1 g i j
  generalize zlog (zup S 3 0 0 (S 3 0 0 + 1)) d f t = S' at *
  refine ⟨HH, zv_go V.2 [3, 52, 59, 60, 18] [1, 14, 22, 23] hfo (by decide) ?_⟩
  intro k hk
  simp only [List.mem_cons, List.not_mem_nil, or_false] at hk
  rcases hk with rfl | rfl | rfl | rfl
  · show S' 0 0 0 ≤ 9999 ∧ S' 1 0 0 < 1024 ∧ S' 2 0 0 < 1024 ∧ S' 3 0 0 ≤ 200
    rw [hfo 0 (by decide), hfo 1 (by decide), hfo 2 (by decide), e3]
    obtain ⟨p1, p2, p3, p4⟩ := zv_1 V
    exact ⟨p1, p2, p3, by omega⟩
  · show ∀ d, d < S' 14 0 0 → S' 48 d 0 < 10 ∧ S' 49 d 0 < S' 10 0 0 ∧ S' 50 d 0 ≤ S' 0 0 0 ∧ S' 17 d 0 ≤ 10 ∧ S' 18 d 0 ≤ S' 3 0 0 ∧ S' 53 d 0 < 256 ∧ S' 54 d 0 < 32
    rw [hfo 14 (by decide), hfo 48 (by decide), hfo 49 (by decide), hfo 10 (by decide), hfo 50 (by decide), hfo 0 (by decide), hfo 17 (by decide), hfo 53 (by decide), hfo 54 (by decide), e3]
    intro e he
    obtain ⟨p1, p2, p3, p4, p5, p6, p7⟩ := zv_14 V e he
    refine ⟨p1, p2, p3, p4, ?_, p6, p7⟩
    by_cases z : e = d
    · subst z; rw [e18]; omega
    · rw [en 18 e 0 (by omega) (fun y => z y.1)]; omega
  · show ∀ d r, d < S' 14 0 0 → r < S' 18 d 0 → S' 59 d r < S' 60 d r ∧ S' 60 d r ≤ S' 51 d 0
    rw [hfo 14 (by decide), hfo 51 (by decide)]
    intro e r he hr
    by_cases z : e = d
    · subst z
      rw [e18] at hr
      by_cases y : r = S 18 e 0
      · subst y; rw [e59, e60]; exact ⟨hft, ht⟩
      · rw [en 59 e r (by omega) (by omega), en 60 e r (by omega) (by omega)]; exact zv_22 V e r he (by omega)
    · rw [en 18 e 0 (by omega) (fun y => z y.1)] at hr
      rw [en 59 e r (by omega) (fun y => z y.1), en 60 e r (by omega) (fun y => z y.1)]; exact zv_22 V e r he hr
  · show ∀ d, d < S' 14 0 0 → S' 52 d 0 = zlc S' d (S' 51 d 0)
    rw [hfo 14 (by decide), hfo 51 (by decide)]
    intro e he
    by_cases z : e = d
    · subst z
      rw [e52, ec (S 51 e 0), h52, if_neg (by omega), show min (S 51 e 0) t = t by omega]
    · rw [en 52 e 0 (by omega) (fun y => z y.1), zv_23 V e he]
      have : ∀ s, zlc S' e s = zlc S e s := fun s => by
        induction s with
        | zero => rfl
        | succ s ih =>
          unfold zlc
          rw [ih, en 18 e 0 (by omega) (fun y => z y.1), zld_i (S := S) _ (fun r hr => ⟨en 59 e r (by omega) (fun y => z y.1), en 60 e r (by omega) (fun y => z y.1)⟩)]
      rw [this]
end ZRW
