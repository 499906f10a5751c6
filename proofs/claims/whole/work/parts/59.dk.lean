/-! THE CLASS (37): ask, the whole -/
theorem zput_o (S : zS) (d c : Nat) {f : Nat} (h1 : f ≠ 47) (h2 : f ≠ 53) (h3 : f ≠ 54) : zput S d c f = S f := by
  unfold zput
  rw [zup_o _ h3, zup_o _ h2, zup_o _ h1]
theorem zpiece_o (S : zS) (d j len c : Nat) {f : Nat} (h1 : ¬ (55 ≤ f ∧ f ≤ 58)) (h2 : f ≠ 17) (h3 : f ≠ 51) : zpiece S d j len c f = S f := by
  unfold zpiece
  rw [zup_o _ h3, zpn_o _ _ _ _ _ _ (by omega) (by omega) (by omega) (by omega) h2]
theorem zadc_le (S : zS) (d i j : Nat) : zadc S d i j ≤ S 13 0 0 := by
  unfold zadc
  split
  · exact zbest_le _ _ _ _
  · omega
/-- fields that a piece's adding leaves -/
def zkeep (f : Nat) : Prop := f ≠ 47 ∧ ¬ (53 ≤ f ∧ f ≤ 58) ∧ f ≠ 17 ∧ f ≠ 51
theorem zadd_o (S : zS) (d i j : Nat) {f : Nat} (h : zkeep f) : zadd S d i j f = S f := by
  obtain ⟨h1, h2, h3, h4⟩ := h
  unfold zadd
  split
  · rw [zpiece_o _ _ _ _ _ (by omega) h3 h4]
  · rw [zpiece_o _ _ _ _ _ (by omega) h3 h4, zput_o _ _ _ h1 (by omega) (by omega)]
theorem zpiece_17 (S : zS) (d j len c : Nat) : zpiece S d j len c 17 d 0 = S 17 d 0 + 1 := by
  unfold zpiece
  rw [zup_o _ (by omega)]
  exact zup_s _ _ _ _ _
theorem zadd_17 (S : zS) (d i j : Nat) : zadd S d i j 17 d 0 = S 17 d 0 + 1 := by
  unfold zadd
  split
  · exact zpiece_17 _ _ _ _ _
  · rw [zpiece_17, zput_o _ _ _ (by omega) (by omega) (by omega)]
/-- the length of what part (i, j) is in d -/
def zlen (S : zS) (d i j : Nat) : Nat := if zadc S d i j = 0 then S 31 i j else S 42 (zadc S d i j - 1) 0
theorem zadd_51 (S : zS) (d i j : Nat) : zadd S d i j 51 d 0 = S 51 d 0 + zlen S d i j := by
  unfold zadd zlen
  split
  · exact zup_s _ _ _ _ _
  · rw [show zpiece (zput S d (zadc S d i j - 1)) d j (S 42 (zadc S d i j - 1) 0) (zadc S d i j) 51 d 0 = zput S d (zadc S d i j - 1) 51 d 0 + S 42 (zadc S d i j - 1) 0 from zup_s _ _ _ _ _, zput_o _ _ _ (by omega) (by omega) (by omega)]
theorem zpiece_H {S : zS} (hb : zH S) {d j len c : Nat} (hj : j < 1048576) (h51 : S 51 d 0 + len < 1048576) (hc : c < 1048576) (h17 : S 17 d 0 < 1048575) : zH (zpiece S d j len c) := by
  have := hb 51 d 0
  refine zH_zup (zH_zup (zH_zup (zH_zup (zH_zup (zH_zup hb ?_) ?_) ?_) ?_) ?_) ?_ <;> omega
/-- what ask keeps small, over the making of d -/
def zsm (S : zS) (d : Nat) : Prop := zH S ∧ S 53 d 0 < 2 ^ 8 ∧ S 54 d 0 < 2 ^ 5
theorem zadd_sm {S : zS} {d i j : Nat} (h : zsm S d) (hj : j < 1000) (hl : zlen S d i j ≤ 999) (h51 : S 51 d 0 ≤ 20000) (h17 : S 17 d 0 ≤ 1000) (h13 : S 13 0 0 ≤ 8) (h47 : ∀ c, c < S 13 0 0 → S 47 c 0 < 1000000 ∧ S 41 c 0 < 5) : zsm (zadd S d i j) d := by
  obtain ⟨hb, h53, h54⟩ := h
  have hz := zadc_le S d i j
  unfold zlen at hl
  unfold zadd
  split
  · rename_i e
    rw [if_pos e] at hl
    refine ⟨zpiece_H hb (by omega) (by omega) (by omega) (by omega), ?_, ?_⟩
    · rw [show zpiece S d j (S 31 i j) 0 53 = S 53 from by
        unfold zpiece
        rw [zup_o _ (by omega), zpn_o _ _ _ _ _ _ (by omega) (by omega) (by omega) (by omega) (by omega)]]
      exact h53
    · rw [show zpiece S d j (S 31 i j) 0 54 = S 54 from by
        unfold zpiece
        rw [zup_o _ (by omega), zpn_o _ _ _ _ _ _ (by omega) (by omega) (by omega) (by omega) (by omega)]]
      exact h54
  · rename_i e
    rw [if_neg e] at hl
    obtain ⟨g47, g41⟩ := h47 (zadc S d i j - 1) (by omega)
    have o53 : S 53 d 0 ||| 2 ^ (zadc S d i j - 1) < 2 ^ 8 := Nat.or_lt_two_pow h53 (Nat.pow_lt_pow_right (by omega) (by omega))
    have o54 : S 54 d 0 ||| 2 ^ (S 41 (zadc S d i j - 1) 0) < 2 ^ 5 := Nat.or_lt_two_pow h54 (Nat.pow_lt_pow_right (by omega) g41)
    have HP : zH (zput S d (zadc S d i j - 1)) := zH_zup (zH_zup (zH_zup hb (by omega)) (by omega)) (by omega)
    have e51 : zput S d (zadc S d i j - 1) 51 = S 51 := zput_o _ _ _ (by omega) (by omega) (by omega)
    have e17 : zput S d (zadc S d i j - 1) 17 = S 17 := zput_o _ _ _ (by omega) (by omega) (by omega)
    have e53 : zput S d (zadc S d i j - 1) 53 d 0 = S 53 d 0 ||| 2 ^ (zadc S d i j - 1) := (zup_n _ (fun z => by omega)).trans (zup_s _ _ _ _ _)
    have e54 : zput S d (zadc S d i j - 1) 54 d 0 = S 54 d 0 ||| 2 ^ (S 41 (zadc S d i j - 1) 0) := zup_s _ _ _ _ _
    refine ⟨zpiece_H HP (by omega) (by rw [e51]; omega) (by omega) (by rw [e17]; omega), ?_, ?_⟩
    · rw [show zpiece (zput S d (zadc S d i j - 1)) d j (S 42 (zadc S d i j - 1) 0) (zadc S d i j) 53 = zput S d (zadc S d i j - 1) 53 from by
        unfold zpiece
        rw [zup_o _ (by omega), zpn_o _ _ _ _ _ _ (by omega) (by omega) (by omega) (by omega) (by omega)], e53]
      exact o53
    · rw [show zpiece (zput S d (zadc S d i j - 1)) d j (S 42 (zadc S d i j - 1) 0) (zadc S d i j) 54 = zput S d (zadc S d i j - 1) 54 from by
        unfold zpiece
        rw [zup_o _ (by omega), zpn_o _ _ _ _ _ _ (by omega) (by omega) (by omega) (by omega) (by omega)], e54]
      exact o54
/-- campaigns' puts grow by one at most -/
theorem zadd_47 (S : zS) (d i j c : Nat) : S 47 c 0 ≤ zadd S d i j 47 c 0 ∧ zadd S d i j 47 c 0 ≤ S 47 c 0 + 1 := by
  unfold zadd
  split
  · rw [zpiece_o _ _ _ _ _ (by omega) (by omega) (by omega)]; omega
  · rw [zpiece_o _ _ _ _ _ (by omega) (by omega) (by omega)]
    unfold zput
    rw [zup_o _ (by omega), zup_o _ (by omega)]
    by_cases e : c = zadc S d i j - 1
    · subst e; rw [zup_s]; omega
    · rw [zup_n _ (fun z => e z.2.1)]; omega
/-- d is filled with the first n parts of item i -/
def zfill (S : zS) (d i : Nat) : Nat → zS
  | 0 => S
  | n + 1 => if S 33 i n = 0 then zadd (zfill S d i n) d i n else zfill S d i n
theorem zfill_o (S : zS) (d i n : Nat) {f : Nat} (h : zkeep f) : zfill S d i n f = S f := by
  induction n with
  | zero => rfl
  | succ n ih =>
    unfold zfill
    split
    · rw [zadd_o _ _ _ _ h, ih]
    · exact ih
theorem zlen_le {S : zS} {d i j : Nat} (h31 : S 31 i j ≤ 999) (h42 : ∀ c, c < S 13 0 0 → S 42 c 0 ≤ 60) : zlen S d i j ≤ 999 := by
  have hz := zadc_le S d i j
  unfold zlen
  split
  · exact h31
  · have := h42 (zadc S d i j - 1) (by omega)
    omega
theorem zfill_b {S : zS} {d i : Nat} (h : zsm S d) (h17 : S 17 d 0 = 0) (h51 : S 51 d 0 = 0) (h13 : S 13 0 0 ≤ 8) (h47 : ∀ c, c < S 13 0 0 → S 47 c 0 ≤ 900000 ∧ S 41 c 0 < 5 ∧ S 42 c 0 ≤ 60) (h31 : ∀ j, j < 10 → S 31 i j ≤ 999) : ∀ n, n ≤ 10 → zsm (zfill S d i n) d ∧ zfill S d i n 17 d 0 ≤ n ∧ zfill S d i n 51 d 0 ≤ 999 * n ∧ ∀ c, S 47 c 0 ≤ zfill S d i n 47 c 0 ∧ zfill S d i n 47 c 0 ≤ S 47 c 0 + n := by
  intro n
  induction n with
  | zero => intro _; exact ⟨h, by show S 17 d 0 ≤ 0; omega, by show S 51 d 0 ≤ _; omega, fun c => ⟨Nat.le_refl _, Nat.le_refl _⟩⟩
  | succ n ih =>
    intro hn
    obtain ⟨i1, i2, i3, i4⟩ := ih (by omega)
    have k13 : zfill S d i n 13 = S 13 := zfill_o S d i n ⟨by omega, by omega, by omega, by omega⟩
    have k41 : zfill S d i n 41 = S 41 := zfill_o S d i n ⟨by omega, by omega, by omega, by omega⟩
    have k42 : zfill S d i n 42 = S 42 := zfill_o S d i n ⟨by omega, by omega, by omega, by omega⟩
    have k31 : zfill S d i n 31 = S 31 := zfill_o S d i n ⟨by omega, by omega, by omega, by omega⟩
    have hl : zlen (zfill S d i n) d i n ≤ 999 := zlen_le (by rw [k31]; exact h31 n (by omega)) (fun c hc => by rw [k13] at hc; rw [k42]; exact (h47 c hc).2.2)
    unfold zfill
    split
    · refine ⟨zadd_sm i1 (by omega) hl (by omega) (by omega) (by rw [k13]; exact h13) (fun c hc => ?_), ?_, ?_, fun c => ?_⟩
      · rw [k13] at hc
        have := i4 c
        have := h47 c hc
        rw [k41]
        omega
      · rw [zadd_17]; omega
      · rw [zadd_51]; omega
      · have := i4 c
        have := zadd_47 (zfill S d i n) d i n c
        omega
    · exact ⟨i1, by omega, by omega, fun c => by have := i4 c; omega⟩
