/-! THE CALLS (26): the model's item -/
section ZSD
variable {G : za_G} {A : zA} {B : zB} {S : zS} {r0 : za_H}
theorem zV_item (V : zinv S) {x y : Nat} (h24 : S 10 0 0 < 24) (hx : x < 1000) (hy : y ≤ 9999) (hu : zuse S (S 15 (S 10 0 0) 0) 0 = true) : zinv (zcut (zitem S x y) (S 10 0 0)) := by
  have HH : zH (zcut (zitem S x y) (S 10 0 0)) := by
    refine zcut_H ?_ _
    unfold zitem
    refine zH_zup (zH_zup (zH_zup (zH_zup (zH_zup V.1 ?_) ?_) ?_) ?_) ?_ <;> omega
  obtain ⟨hfo, e10, e15, e15', ⟨e35, e36, e37⟩, en, e33, e33'⟩ := zitem_e V x y hu
  obtain ⟨g1, g2, g3, g4, g5⟩ := zv_2 V
  generalize zcut (zitem S x y) (S 10 0 0) = S' at *
  have k14 := zv_14 V
  have b33 : ∀ i b, i ≤ S 10 0 0 → b < S 15 i 0 → S' 33 i b ≤ 1 := fun i b hi hb => by
    by_cases z : i = S 10 0 0
    · subst z; rw [e33 b hb]; split <;> omega
    · rw [e33' i b z]; exact (zv_4 V i b hi hb).2.2.2.1
  have hout : ∀ i j, zout S' i j = zout S i j := fun i j => zout_S (hfo 30 (by decide)) (hfo 1 (by decide)) (hfo 32 (by decide)) i j
  refine ⟨HH, zv_go V.2 [35, 36, 37, 15, 10, 33] [2, 3, 4, 6, 7, 8, 9, 10, 11, 14, 15, 24, 25] hfo (by decide) ?_⟩
  intro k hk
  simp only [List.mem_cons, List.not_mem_nil, or_false] at hk
  rcases hk with rfl | rfl | rfl | rfl | rfl | rfl | rfl | rfl | rfl | rfl | rfl | rfl | rfl
  · show S' 10 0 0 ≤ 24 ∧ S' 12 0 0 ≤ 6 ∧ S' 13 0 0 ≤ 8 ∧ S' 14 0 0 ≤ 60 ∧ S' 19 0 0 = S' 14 0 0
    rw [e10, hfo 12 (by decide), hfo 13 (by decide), hfo 14 (by decide), hfo 19 (by decide)]
    exact ⟨by omega, g2, g3, g4, g5⟩
  · show ∀ i, i ≤ S' 10 0 0 → S' 15 i 0 ≤ 10
    rw [e10]
    intro i hi
    by_cases z : i = S 10 0 0 + 1
    · subst z; rw [e15]; omega
    · rw [e15' i (by omega)]; exact zv_3 V i (by omega)
  · show ∀ i j, i ≤ S' 10 0 0 → j < S' 15 i 0 → S' 30 i j ≤ 2 ∧ (S' 30 i j = 1 → 1 ≤ S' 32 i j ∧ S' 32 i j ≤ 10) ∧ (S' 30 i j = 2 → 1 ≤ S' 32 i j) ∧ S' 33 i j ≤ 1 ∧ S' 34 i j < 1024
    rw [e10, hfo 30 (by decide), hfo 32 (by decide), hfo 34 (by decide)]
    intro i j hi hj
    by_cases z : i = S 10 0 0 + 1
    · subst z; rw [e15] at hj; omega
    · rw [e15' i (by omega)] at hj
      obtain ⟨p1, p2, p3, p4, p5⟩ := zv_4 V i j (by omega) hj
      exact ⟨p1, p2, p3, b33 i j (by omega) hj, p5⟩
  · show ∀ i, i < S' 10 0 0 → S' 36 i 0 ≤ 9999 ∧ S' 37 i 0 ≤ 1
    rw [e10]
    intro i hi
    by_cases z : i = S 10 0 0
    · subst z; rw [e36, e37]; exact ⟨hy, by omega⟩
    · rw [en 36 i (by omega) z, en 37 i (by omega) z]; exact zv_6 V i (by omega)
  · show ∀ i j, i < S' 10 0 0 → j < S' 15 i 0 → S' 33 i j = 0 → zout S' i j = false
    rw [e10]
    intro i j hi hj h
    rw [hout]
    rw [e15' i (by omega)] at hj
    by_cases z : i = S 10 0 0
    · subst z
      rw [e33 j hj] at h
      cases hz : zout S (S 10 0 0) j with
      | false => rfl
      | true => rw [hz, if_pos rfl] at h; cases h
    · rw [e33' i j z] at h; exact zv_7 V i j (by omega) hj h
  · show ∀ i, i < S' 10 0 0 → zunc S' i (S' 15 i 0) = 0 → S' 37 i 0 = 1
    rw [e10]
    intro i hi h
    rw [e15' i (by omega)] at h
    by_cases z : i = S 10 0 0
    · subst z
      obtain ⟨m, h1, h2, h3⟩ := (zuse_t S _ 0).mp hu
      exact absurd h (zunc_pos _ ⟨m, by omega, by rw [e33 m (by omega), h3]; rfl⟩)
    · rw [zunc_i (fun b => e33' i b z)] at h
      rw [en 37 i (by omega) z]; exact zv_8 V i (by omega) h
  · show ∀ j, j < S' 15 (S' 10 0 0) 0 → S' 33 (S' 10 0 0) j = 0 ∧ S' 34 (S' 10 0 0) j = 0
    rw [e10, e15]; intro j hj; omega
  · show ∀ j, j < S' 11 0 0 → S' 20 j 0 < S' 10 0 0
    rw [e10, hfo 11 (by decide), hfo 20 (by decide)]
    intro j hj
    have := zv_10 V j hj
    omega
  · show ∀ a, a < S' 12 0 0 → S' 39 a 0 ≤ S' 11 0 0 ∧ S' 16 a 0 ≤ 24 ∧ ∀ j, j < S' 16 a 0 → S' 21 a j < S' 10 0 0
    rw [e10, hfo 12 (by decide), hfo 39 (by decide), hfo 11 (by decide), hfo 16 (by decide), hfo 21 (by decide)]
    intro a ha
    obtain ⟨p1, p2, p3⟩ := zv_11 V a ha
    exact ⟨p1, p2, fun j hj => by have := p3 j hj; omega⟩
  · show ∀ d, d < S' 14 0 0 → S' 48 d 0 < 10 ∧ S' 49 d 0 < S' 10 0 0 ∧ S' 50 d 0 ≤ S' 0 0 0 ∧ S' 17 d 0 ≤ 10 ∧ S' 18 d 0 ≤ S' 3 0 0 ∧ S' 53 d 0 < 256 ∧ S' 54 d 0 < 32
    rw [e10, hfo 14 (by decide), hfo 48 (by decide), hfo 49 (by decide), hfo 50 (by decide), hfo 0 (by decide), hfo 17 (by decide), hfo 18 (by decide), hfo 3 (by decide), hfo 53 (by decide), hfo 54 (by decide)]
    intro d hd
    obtain ⟨p1, p2, p3⟩ := k14 d hd
    exact ⟨p1, by omega, p3⟩
  · show ∀ d k, d < S' 14 0 0 → k < S' 17 d 0 → S' 55 d k < S' 15 (S' 49 d 0) 0 ∧ S' 58 d k ≤ S' 13 0 0 ∧ S' 56 d k = zso S' d k ∧ S' 57 d k = zso S' d (k + 1)
    rw [hfo 14 (by decide), hfo 17 (by decide), hfo 55 (by decide), hfo 49 (by decide), hfo 58 (by decide), hfo 13 (by decide), hfo 56 (by decide), hfo 57 (by decide)]
    intro d k hd hk
    have := (k14 d hd).2.1
    rw [e15' _ (by omega), zso_S (hfo 58 (by decide)) (hfo 31 (by decide)) (hfo 49 (by decide)) (hfo 55 (by decide)) (hfo 42 (by decide)), zso_S (hfo 58 (by decide)) (hfo 31 (by decide)) (hfo 49 (by decide)) (hfo 55 (by decide)) (hfo 42 (by decide))]
    exact zv_15 V d k hd hk
  · show ∀ d k, d < S' 14 0 0 → k < S' 17 d 0 → S' 58 d k ≠ 0 → S' 30 (S' 49 d 0) (S' 55 d k) = 2
    rw [hfo 14 (by decide), hfo 17 (by decide), hfo 58 (by decide), hfo 30 (by decide), hfo 49 (by decide), hfo 55 (by decide)]
    exact zv_24 V
  · show ∀ i j, i ≤ S' 10 0 0 → j < S' 15 i 0 → S' 30 i j ≠ 2 → 1 ≤ S' 31 i j
    rw [e10, hfo 30 (by decide), hfo 31 (by decide)]
    intro i j hi hj
    by_cases z : i = S 10 0 0 + 1
    · subst z; rw [e15] at hj; omega
    · rw [e15' i (by omega)] at hj
      exact zv_25 V i j (by omega) hj
end ZSD
