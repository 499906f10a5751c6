/-! THE CALLS (25): item -/
def sp_item (S : zS) (x y : Int32) : Nat × Int32 × zS :=
  if ¬ (0 ≤ x.toInt ∧ x.toInt < 4) then (1, nI 0, S) else if ¬ ((S 0 0 0 : Int) ≤ y.toInt ∧ y.toInt ≤ 9999) then (2, nI 0, S) else if zuse S (S 15 (S 10 0 0) 0) 0 = false ∨ 24 ≤ S 10 0 0 then (3, nI 0, S) else (0, nI (S 10 0 0), znote (zcut (zitem S x.toInt.toNat y.toInt.toNat) (S 10 0 0)) (S 10 0 0))
section ZSC
variable {G : za_G} {A : zA} {B : zB} {S Sx : zS} {T T0 TC : zT} {r0 : za_H}
theorem zuse_t (S : zS) : ∀ k j, zuse S k j = true ↔ ∃ m, j ≤ m ∧ m < j + k ∧ zout S (S 10 0 0) m = false := by
  intro k
  induction k with
  | zero => intro j; exact ⟨fun h => (by cases h), fun ⟨m, h1, h2, _⟩ => by omega⟩
  | succ k ih =>
    intro j
    unfold zuse
    by_cases z : zout S (S 10 0 0) j = false
    · rw [if_pos z]; exact ⟨fun _ => ⟨j, by omega, by omega, z⟩, fun _ => rfl⟩
    · rw [if_neg z, ih (j + 1)]
      constructor
      · rintro ⟨m, h1, h2, h3⟩; exact ⟨m, by omega, by omega, h3⟩
      · rintro ⟨m, h1, h2, h3⟩
        have : m ≠ j := fun y => z (by rw [← y]; exact h3)
        exact ⟨m, by omega, by omega, h3⟩
/-- whether one of the draft's first k stays -/
def zusb (S : zS) : Nat → Bool
  | 0 => false
  | k + 1 => zusb S k || !zout S (S 10 0 0) k
theorem zusb_t (S : zS) : ∀ k, zusb S k = true ↔ ∃ m, m < k ∧ zout S (S 10 0 0) m = false := by
  intro k
  induction k with
  | zero => exact ⟨fun h => (by cases h), fun ⟨m, h1, _⟩ => by omega⟩
  | succ k ih =>
    unfold zusb
    rw [Bool.or_eq_true, ih, Bool.not_eq_true']
    constructor
    · rintro (⟨m, h1, h2⟩ | h)
      · exact ⟨m, by omega, h2⟩
      · exact ⟨k, by omega, h⟩
    · rintro ⟨m, h1, h2⟩
      by_cases z : m = k
      · subst z; exact Or.inr h2
      · exact Or.inl ⟨m, by omega, h2⟩
theorem zusb_e (S : zS) (n : Nat) : zusb S n = zuse S n 0 := by
  rw [Bool.eq_iff_iff, zusb_t, zuse_t]
  constructor
  · rintro ⟨m, h1, h2⟩; exact ⟨m, by omega, by omega, h2⟩
  · rintro ⟨m, h1, h2, h3⟩; exact ⟨m, by omega, h3⟩
theorem zunc_pos {S : zS} {i : Nat} : ∀ n, (∃ m, m < n ∧ S 33 i m = 0) → zunc S i n ≠ 0 := by
  intro n
  induction n with
  | zero => rintro ⟨m, h, _⟩; omega
  | succ n ih =>
    rintro ⟨m, h1, h2⟩
    unfold zunc
    by_cases z : m = n
    · subst z; rw [if_pos h2]; omega
    · have := ih ⟨m, by omega, h2⟩
      omega
/-- the state with an item more, its parts that are out cut -/
theorem zitem_e (V : zinv S) (x y : Nat) (hu : zuse S (S 15 (S 10 0 0) 0) 0 = true) :
    (∀ g, g ∉ [35, 36, 37, 15, 10, 33] → zcut (zitem S x y) (S 10 0 0) g = S g) ∧ zcut (zitem S x y) (S 10 0 0) 10 0 0 = S 10 0 0 + 1 ∧ zcut (zitem S x y) (S 10 0 0) 15 (S 10 0 0 + 1) 0 = 0 ∧ (∀ i, i ≤ S 10 0 0 → zcut (zitem S x y) (S 10 0 0) 15 i 0 = S 15 i 0) ∧ (zcut (zitem S x y) (S 10 0 0) 35 (S 10 0 0) 0 = x ∧ zcut (zitem S x y) (S 10 0 0) 36 (S 10 0 0) 0 = y ∧ zcut (zitem S x y) (S 10 0 0) 37 (S 10 0 0) 0 = 0) ∧ (∀ g i, g = 35 ∨ g = 36 ∨ g = 37 → i ≠ S 10 0 0 → zcut (zitem S x y) (S 10 0 0) g i 0 = S g i 0) ∧ (∀ b, b < S 15 (S 10 0 0) 0 → zcut (zitem S x y) (S 10 0 0) 33 (S 10 0 0) b = if zout S (S 10 0 0) b = true then 1 else 0) ∧ (∀ i b, i ≠ S 10 0 0 → zcut (zitem S x y) (S 10 0 0) 33 i b = S 33 i b) := by
  have so : ∀ f, f ≠ 35 → f ≠ 36 → f ≠ 37 → f ≠ 15 → f ≠ 10 → zitem S x y f = S f := fun f => zitem_o S x y
  have s10 : zitem S x y 10 0 0 = S 10 0 0 + 1 := zup_s _ _ _ _ _
  have s15' : ∀ i, i ≠ S 10 0 0 + 1 → zitem S x y 15 i 0 = S 15 i 0 := fun i h => by
    unfold zitem
    rw [zup_o _ (by omega), zup_n _ (fun z => h z.2.1), zup_o _ (by omega), zup_o _ (by omega), zup_o _ (by omega)]
  have s15 : zitem S x y 15 (S 10 0 0 + 1) 0 = 0 := by unfold zitem; rw [zup_o _ (by omega), zup_s]
  have s35 : zitem S x y 35 (S 10 0 0) 0 = x := by unfold zitem; rw [zup_o _ (by omega), zup_o _ (by omega), zup_o _ (by omega), zup_o _ (by omega), zup_s]
  have s36 : zitem S x y 36 (S 10 0 0) 0 = y := by unfold zitem; rw [zup_o _ (by omega), zup_o _ (by omega), zup_o _ (by omega), zup_s]
  have s37 : zitem S x y 37 (S 10 0 0) 0 = 0 := by unfold zitem; rw [zup_o _ (by omega), zup_o _ (by omega), zup_s]
  have sn : ∀ g i, (g = 35 ∨ g = 36 ∨ g = 37) → i ≠ S 10 0 0 → zitem S x y g i 0 = S g i 0 := fun g i hg hi => by
    unfold zitem
    rw [zup_o _ (by omega), zup_o _ (by omega), zup_n _ (fun z => hi z.2.1), zup_n _ (fun z => hi z.2.1), zup_n _ (fun z => hi z.2.1)]
  have hout : ∀ i j, zout (zitem S x y) i j = zout S i j := fun i j => zout_S (so 30 (by omega) (by omega) (by omega) (by omega) (by omega)) (so 1 (by omega) (by omega) (by omega) (by omega) (by omega)) (so 32 (by omega) (by omega) (by omega) (by omega) (by omega)) i j
  have s33 : zitem S x y 33 = S 33 := so 33 (by omega) (by omega) (by omega) (by omega) (by omega)
  have ew := zcw_e (zitem S x y) (S 10 0 0) (zitem S x y 15 (S 10 0 0) 0)
  have hD : zitem S x y 15 (S 10 0 0) 0 = S 15 (S 10 0 0) 0 := s15' _ (by omega)
  have e33 := zcut_33 (zitem S x y) (S 10 0 0)
  have hcut : zcut (zitem S x y) (S 10 0 0) = zcw (zitem S x y) (S 10 0 0) (S 15 (S 10 0 0) 0) := by
    unfold zcut
    rw [hD, if_neg]
    obtain ⟨m, h1, h2, h3⟩ := (zuse_t S _ 0).mp hu
    refine zunc_pos _ ⟨m, by omega, ?_⟩
    rw [zcw_e, if_neg (fun w => by rw [hout, h3] at w; cases w.2.2.2), s33]
    exact (zv_9 V m (by omega)).1
  have ho : ∀ g, g ≠ 33 → zcut (zitem S x y) (S 10 0 0) g = zitem S x y g := fun g hg => by rw [hcut]; exact zcw_o _ _ _ hg
  refine ⟨fun g hg => ?_, ?_, ?_, fun i hi => ?_, ⟨?_, ?_, ?_⟩, fun g i hg hi => ?_, fun b hb => ?_, fun i b hi => ?_⟩
  · simp only [List.mem_cons, List.not_mem_nil, or_false, not_or] at hg
    rw [ho g hg.2.2.2.2.2, so g hg.1 hg.2.1 hg.2.2.1 hg.2.2.2.1 hg.2.2.2.2.1]
  · rw [ho 10 (by omega), s10]
  · rw [ho 15 (by omega), s15]
  · rw [ho 15 (by omega), s15' i (by omega)]
  · rw [ho 35 (by omega), s35]
  · rw [ho 36 (by omega), s36]
  · rw [ho 37 (by omega), s37]
  · rw [ho g (by omega), sn g i hg hi]
  · rw [e33, ew, hD, hout, s33]
    by_cases z : zout S (S 10 0 0) b = true
    · rw [if_pos ⟨rfl, hb, (zv_9 V b hb).1, z⟩, if_pos z]
    · rw [if_neg (fun w => z w.2.2.2), if_neg z, (zv_9 V b hb).1]
  · rw [e33, ew, if_neg (fun w => hi w.1), s33]
/-- the model's rows once the draft is an item -/
def zpc9 (S : zS) (T0 TC : zT) (x y : Nat) : Prop :=
  (∀ k, k ∉ [1, 6, 7, 8, 11, 12, 13, 14, 15] → TC.1 k = T0.1 k) ∧ TC.1 1 0 = nI 0 ∧ TC.1 6 0 = nI (S 10 0 0 + 1) ∧ TC.1 7 = upd (T0.1 7) (S 10 0 0) (nI x) ∧ TC.1 8 = upd (T0.1 8) (S 10 0 0) (nI y) ∧ TC.1 11 = upd (T0.1 11) (S 10 0 0) (nI (S 15 (S 10 0 0) 0)) ∧ (∀ b, b < S 15 (S 10 0 0) 0 → TC.1 12 (10 * S 10 0 0 + b) = nI (S 30 (S 10 0 0) b) ∧ TC.1 13 (10 * S 10 0 0 + b) = nI (S 31 (S 10 0 0) b) ∧ TC.1 14 (10 * S 10 0 0 + b) = z1 (S 32 (S 10 0 0) b) ∧ TC.1 15 (10 * S 10 0 0 + b) = zb (zout S (S 10 0 0) b)) ∧ (∀ m, m < 10 * S 10 0 0 → TC.1 12 m = T0.1 12 m ∧ TC.1 13 m = T0.1 13 m ∧ TC.1 14 m = T0.1 14 m ∧ TC.1 15 m = T0.1 15 m)
theorem zR_item (R : zR S T0) (V : zinv S) {x y : Nat} (h24 : S 10 0 0 < 24) (hu : zuse S (S 15 (S 10 0 0) 0) 0 = true) (P : zpc9 S T0 TC x y) : zR (zcut (zitem S x y) (S 10 0 0)) (ztu TC 9 (upd (TC.1 9) (S 10 0 0) (zb (decide (y ≤ S 0 0 0))))) := by
  obtain ⟨hfo, e10, e15, e15', ⟨e35, e36, e37⟩, en, e33, e33'⟩ := zitem_e V x y hu
  obtain ⟨q0, q1, q6, q7, q8, q11, qn, qo⟩ := P
  generalize zcut (zitem S x y) (S 10 0 0) = S' at *
  have hT : ∀ k, k ∉ [1, 6, 7, 8, 9, 11, 12, 13, 14, 15] → (ztu TC 9 (upd (TC.1 9) (S 10 0 0) (zb (decide (y ≤ S 0 0 0))))).1 k = T0.1 k := fun k hk => by
    simp only [List.mem_cons, List.not_mem_nil, or_false, not_or] at hk
    rw [ztu_ne _ _ (by omega), q0 k (by simp only [List.mem_cons, List.not_mem_nil, or_false, not_or]; omega)]
  have k9 : TC.1 9 = T0.1 9 := q0 9 (by decide)
  have ne9 : ∀ k, k ≠ 9 → (ztu TC 9 (upd (TC.1 9) (S 10 0 0) (zb (decide (y ≤ S 0 0 0))))).1 k = TC.1 k := fun k hk => ztu_ne _ _ hk
  have i9 : (ztu TC 9 (upd (TC.1 9) (S 10 0 0) (zb (decide (y ≤ S 0 0 0))))).1 9 = upd (T0.1 9) (S 10 0 0) (zb (decide (y ≤ S 0 0 0))) := by rw [ztu_s, k9]
  generalize ztu TC 9 (upd (TC.1 9) (S 10 0 0) (zb (decide (y ≤ S 0 0 0)))) = T' at *
  have h15 := fun i (hi : i ≤ S 10 0 0) => zv_3 V i hi
  refine ⟨zR_go R.1 [35, 36, 37, 15, 10, 33] [1, 6, 7, 8, 9, 11, 12, 13, 14, 15] [1, 2, 3, 4, 6, 7, 8, 9, 10, 11, 12, 13, 14, 15, 33] hfo hT (by decide) ?_, fun d s hd hs => ?_⟩
  · intro k hk
    simp only [List.mem_cons, List.not_mem_nil, or_false] at hk
    rcases hk with rfl | rfl | rfl | rfl | rfl | rfl | rfl | rfl | rfl | rfl | rfl | rfl | rfl | rfl | rfl
    · show T'.1 1 0 = nI (S' 15 (S' 10 0 0) 0)
      rw [ne9 1 (by omega), q1, e10, e15]
    · show ∀ j, j < S' 15 (S' 10 0 0) 0 → T'.1 2 j = nI (S' 30 (S' 10 0 0) j)
      rw [e10, e15]; intro j hj; omega
    · show ∀ j, j < S' 15 (S' 10 0 0) 0 → T'.1 3 j = nI (S' 31 (S' 10 0 0) j)
      rw [e10, e15]; intro j hj; omega
    · show ∀ j, j < S' 15 (S' 10 0 0) 0 → T'.1 4 j = z1 (S' 32 (S' 10 0 0) j)
      rw [e10, e15]; intro j hj; omega
    · show T'.1 6 0 = nI (S' 10 0 0)
      rw [ne9 6 (by omega), q6, e10]
    · show ∀ i, i < S' 10 0 0 → T'.1 7 i = nI (S' 35 i 0)
      rw [ne9 7 (by omega), q7, e10]
      intro i hi
      by_cases z : i = S 10 0 0
      · subst z; rw [zupd_s, e35]
      · rw [zupd_n _ _ z, en 35 i (by omega) z]; exact zr_7 R i (by omega)
    · show ∀ i, i < S' 10 0 0 → T'.1 8 i = nI (S' 36 i 0)
      rw [ne9 8 (by omega), q8, e10]
      intro i hi
      by_cases z : i = S 10 0 0
      · subst z; rw [zupd_s, e36]
      · rw [zupd_n _ _ z, en 36 i (by omega) z]; exact zr_8 R i (by omega)
    · show ∀ i, i < 24 → T'.1 9 i = zb (decide (i < S' 10 0 0 ∧ S' 36 i 0 ≤ S' 0 0 0))
      rw [i9, e10, hfo 0 (by decide)]
      intro i hi
      by_cases z : i = S 10 0 0
      · subst z; rw [zupd_s, e36]; exact zb_c (by omega)
      · rw [zupd_n _ _ z, en 36 i (by omega) z, zr_9 R i hi]; exact zb_c (by omega)
    · show ∀ i, i < 24 → T'.1 10 i = zb (decide (i < S' 10 0 0 ∧ S' 37 i 0 ≠ 0))
      rw [hT 10 (by decide), e10]
      intro i hi
      rw [zr_10 R i hi]
      by_cases z : i = S 10 0 0
      · subst z; rw [e37]; exact zb_c (by omega)
      · rw [en 37 i (by omega) z]; exact zb_c (by omega)
    · show ∀ i, i < S' 10 0 0 → T'.1 11 i = nI (S' 15 i 0)
      rw [ne9 11 (by omega), q11, e10]
      intro i hi
      rw [e15' i (by omega)]
      by_cases z : i = S 10 0 0
      · subst z; rw [zupd_s]
      · rw [zupd_n _ _ z]; exact zr_11 R i (by omega)
    · show ∀ i j, i < S' 10 0 0 → j < S' 15 i 0 → T'.1 12 (10 * i + j) = nI (S' 30 i j)
      rw [ne9 12 (by omega), e10, hfo 30 (by decide)]
      intro i j hi hj
      rw [e15' i (by omega)] at hj
      have := h15 i (by omega)
      by_cases z : i = S 10 0 0
      · subst z; exact (qn j hj).1
      · rw [(qo (10 * i + j) (by omega)).1]; exact zr_12 R i j (by omega) hj
    · show ∀ i j, i < S' 10 0 0 → j < S' 15 i 0 → T'.1 13 (10 * i + j) = nI (S' 31 i j)
      rw [ne9 13 (by omega), e10, hfo 31 (by decide)]
      intro i j hi hj
      rw [e15' i (by omega)] at hj
      have := h15 i (by omega)
      by_cases z : i = S 10 0 0
      · subst z; exact (qn j hj).2.1
      · rw [(qo (10 * i + j) (by omega)).2.1]; exact zr_13 R i j (by omega) hj
    · show ∀ i j, i < S' 10 0 0 → j < S' 15 i 0 → T'.1 14 (10 * i + j) = z1 (S' 32 i j)
      rw [ne9 14 (by omega), e10, hfo 32 (by decide)]
      intro i j hi hj
      rw [e15' i (by omega)] at hj
      have := h15 i (by omega)
      by_cases z : i = S 10 0 0
      · subst z; exact (qn j hj).2.2.1
      · rw [(qo (10 * i + j) (by omega)).2.2.1]; exact zr_14 R i j (by omega) hj
    · show ∀ i j, i < S' 10 0 0 → j < S' 15 i 0 → T'.1 15 (10 * i + j) = zb (decide (S' 33 i j ≠ 0))
      rw [ne9 15 (by omega), e10]
      intro i j hi hj
      rw [e15' i (by omega)] at hj
      have := h15 i (by omega)
      by_cases z : i = S 10 0 0
      · subst z
        rw [(qn j hj).2.2.2, e33 j hj]
        cases zout S (S 10 0 0) j <;> rfl
      · rw [(qo (10 * i + j) (by omega)).2.2.2, e33' i j z]; exact zr_15 R i j (by omega) hj
    · show ∀ l i j, l < 10 → i < 24 → j < 10 → T'.1 33 (240 * l + 10 * i + j) = zb (decide (i < S' 10 0 0 ∧ j < S' 15 i 0) && (S' 34 i j).testBit l)
      rw [hT 33 (by decide), e10, hfo 34 (by decide)]
      intro l i j hl hi hj
      rw [zr_33 R l i j hl hi hj]
      by_cases z : i < S 10 0 0
      · rw [e15' i (by omega)]
        congr 2
        exact decide_eq_decide.mpr (by omega)
      · rw [decide_eq_false (fun y => z y.1), Bool.false_and]
        by_cases w : i = S 10 0 0 ∧ j < S 15 (S 10 0 0) 0
        · obtain ⟨rfl, w⟩ := w
          rw [(zv_9 V j w).2, Nat.zero_testBit, Bool.and_false]
        · rw [decide_eq_false (fun y => by
            have : i = S 10 0 0 := by omega
            subst this
            rw [e15' _ (Nat.le_refl _)] at y
            omega), Bool.false_and]
  · rw [hfo 14 (by decide), hfo 3 (by decide), hfo 18 (by decide), zmr_T (hT 46 (by decide)) (hT 47 (by decide)) (hT 48 (by decide)), zld_S (hfo 59 (by decide)) (hfo 60 (by decide))]
    exact R.2 d s hd hs
end ZSC
