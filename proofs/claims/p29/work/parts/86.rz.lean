/-! THE CALLS (22): songOut -/
section ZRZ
variable {G : za_G} {A : zA} {B : zB} {S S' : zS} {T : zT} {r0 : za_H}
theorem zcw_e (S : zS) (i : Nat) : ∀ n a b, zcw S i n 33 a b = if a = i ∧ b < n ∧ S 33 i b = 0 ∧ zout S i b = true then 1 else S 33 a b := by
  intro n
  induction n with
  | zero => intro a b; rw [if_neg (fun y => by omega)]; rfl
  | succ n ih =>
    intro a b
    unfold zcw
    by_cases z : S 33 i n = 0 ∧ zout S i n = true
    · rw [if_pos z]
      by_cases y : a = i ∧ b = n
      · obtain ⟨rfl, rfl⟩ := y
        rw [zup_s, if_pos ⟨rfl, by omega, z⟩]
      · rw [zup_n _ (fun w => y w.2), ih]
        by_cases w : a = i ∧ b < n ∧ S 33 i b = 0 ∧ zout S i b = true
        · rw [if_pos w, if_pos ⟨w.1, by omega, w.2.2⟩]
        · rw [if_neg w, if_neg (fun v => w ⟨v.1, by omega, v.2.2⟩)]
    · rw [if_neg z, ih]
      by_cases w : a = i ∧ b < n ∧ S 33 i b = 0 ∧ zout S i b = true
      · rw [if_pos w, if_pos ⟨w.1, by omega, w.2.2⟩]
      · rw [if_neg w, if_neg (fun v => w ⟨v.1, by
          have : b ≠ n := fun y => z (by rw [← y]; exact v.2.2)
          omega, v.2.2⟩)]
theorem zcw_0 {S : zS} {i : Nat} : ∀ n, zcn S i n = 0 → zcw S i n = S := by
  intro n
  induction n with
  | zero => intro _; rfl
  | succ n ih =>
    intro h
    unfold zcn at h
    unfold zcw
    by_cases z : S 33 i n = 0 ∧ zout S i n = true
    · rw [if_pos z] at h; omega
    · rw [if_neg z] at h ⊢; exact ih (by omega)
theorem zup_id {S : zS} {f i j v : Nat} (h : S f i j = v) : zup S f i j v = S := by
  funext a b c
  unfold zup
  split
  · rename_i z; obtain ⟨rfl, rfl, rfl⟩ := z; exact h.symm
  · rfl
/-- without the clause of what is out -/
def zinvx (S : zS) : Prop := zH S ∧ ∀ k, k ≠ 7 → zv S k
theorem zv_gox (h : ∀ k, k ≠ 7 → zv S k) (FS L : List Nat) (hS : ∀ g, g ∉ FS → S' g = S g) (hL : zavf FS = L) (q : ∀ k, k ∈ L → k ≠ 7 → zv S' k) : ∀ k, k ≠ 7 → zv S' k := by
  intro k k7
  by_cases hk : k < 26
  · by_cases z : k ∈ zavf FS
    · exact q k (by rw [← hL]; exact z) k7
    · have n2 : ¬ ((zdv k).any (fun g => FS.contains g)) = true := fun y => z (List.mem_filter.mpr ⟨List.mem_range.mpr hk, y⟩)
      refine zv_S k (fun g hg => hS g (fun y => n2 ?_)) (h k k7)
      rw [List.any_eq_true]
      exact ⟨g, hg, by rw [List.contains_eq_mem]; exact decide_eq_true y⟩
  · obtain ⟨m, rfl⟩ : ∃ m, k = m + 26 := ⟨k - 26, by omega⟩
    trivial
theorem zinv.x (V : zinv S) : zinvx S := ⟨V.1, fun k _ => V.2 k⟩
theorem zX_cut (V : zinvx S) {i : Nat} (hi : i < S 10 0 0) : zinvx (zcut S i) := by
  have hfo : ∀ f, f ∉ [33, 37] → zcut S i f = S f := fun f hf => by
    simp only [List.mem_cons, List.not_mem_nil, or_false, not_or] at hf
    exact zcut_o S i hf.1 hf.2
  have e33 : zcut S i 33 = zcw S i (S 15 i 0) 33 := by
    unfold zcut
    split
    · exact zup_o _ (by omega)
    · rfl
  have e37 : ∀ a, zcut S i 37 a 0 = if a = i ∧ zunc (zcw S i (S 15 i 0)) i (S 15 i 0) = 0 then 1 else S 37 a 0 := fun a => by
    unfold zcut
    by_cases z : zunc (zcw S i (S 15 i 0)) i (S 15 i 0) = 0
    · rw [if_pos z]
      by_cases y : a = i
      · subst y; rw [zup_s, if_pos ⟨rfl, z⟩]
      · rw [zup_n _ (fun w => y w.2.1), if_neg (fun w => y w.1), zcw_o _ _ _ (by omega)]
    · rw [if_neg z, if_neg (fun w => z w.2), zcw_o _ _ _ (by omega)]
  have ew := zcw_e S i (S 15 i 0)
  refine ⟨zcut_H V.1 i, zv_gox V.2 [33, 37] [4, 6, 7, 8, 9] hfo (by decide) ?_⟩
  intro k hk k7
  simp only [List.mem_cons, List.not_mem_nil, or_false] at hk
  rcases hk with rfl | rfl | rfl | rfl | rfl
  · show ∀ a b, a ≤ zcut S i 10 0 0 → b < zcut S i 15 a 0 → zcut S i 30 a b ≤ 2 ∧ (zcut S i 30 a b = 1 → 1 ≤ zcut S i 32 a b ∧ zcut S i 32 a b ≤ 10) ∧ (zcut S i 30 a b = 2 → 1 ≤ zcut S i 32 a b) ∧ zcut S i 33 a b ≤ 1 ∧ zcut S i 34 a b < 1024
    rw [hfo 10 (by decide), hfo 15 (by decide), hfo 30 (by decide), hfo 32 (by decide), hfo 34 (by decide), e33]
    intro a b ha hb
    have v4 : ∀ i j, i ≤ S 10 0 0 → j < S 15 i 0 → S 30 i j ≤ 2 ∧ (S 30 i j = 1 → 1 ≤ S 32 i j ∧ S 32 i j ≤ 10) ∧ (S 30 i j = 2 → 1 ≤ S 32 i j) ∧ S 33 i j ≤ 1 ∧ S 34 i j < 1024 := V.2 4 (by omega)
    obtain ⟨p1, p2, p3, p4, p5⟩ := v4 a b ha hb
    refine ⟨p1, p2, p3, ?_, p5⟩
    rw [ew]
    split <;> omega
  · show ∀ a, a < zcut S i 10 0 0 → zcut S i 36 a 0 ≤ 9999 ∧ zcut S i 37 a 0 ≤ 1
    rw [hfo 10 (by decide), hfo 36 (by decide)]
    intro a ha
    have v6 : ∀ i, i < S 10 0 0 → S 36 i 0 ≤ 9999 ∧ S 37 i 0 ≤ 1 := V.2 6 (by omega)
    refine ⟨(v6 a ha).1, ?_⟩
    rw [e37]
    split
    · omega
    · exact (v6 a ha).2
  · exact absurd rfl k7
  · show ∀ a, a < zcut S i 10 0 0 → zunc (zcut S i) a (zcut S i 15 a 0) = 0 → zcut S i 37 a 0 = 1
    rw [hfo 10 (by decide), hfo 15 (by decide)]
    intro a ha hz
    have v8 : ∀ i, i < S 10 0 0 → zunc S i (S 15 i 0) = 0 → S 37 i 0 = 1 := V.2 8 (by omega)
    rw [zunc_S e33] at hz
    rw [e37]
    by_cases y : a = i
    · subst y; rw [if_pos ⟨rfl, hz⟩]
    · rw [if_neg (fun w => y w.1)]
      rw [zunc_i (fun b => by rw [ew, if_neg (fun w => y w.1)])] at hz
      exact v8 a ha hz
  · show ∀ b, b < zcut S i 15 (zcut S i 10 0 0) 0 → zcut S i 33 (zcut S i 10 0 0) b = 0 ∧ zcut S i 34 (zcut S i 10 0 0) b = 0
    rw [hfo 10 (by decide), hfo 15 (by decide), hfo 34 (by decide), e33]
    intro b hb
    have v9 : ∀ j, j < S 15 (S 10 0 0) 0 → S 33 (S 10 0 0) j = 0 ∧ S 34 (S 10 0 0) j = 0 := V.2 9 (by omega)
    rw [ew, if_neg (fun w => by omega)]
    exact v9 b hb
theorem zX_note (V : zinvx S) {i : Nat} (hi : i < S 10 0 0) (hn : S 11 0 0 < 1000000) : zinvx (znote S i) := by
  unfold znote
  split
  · have u : ∀ f, f ∉ [20, 11] → zchg S i f = S f := fun f hf => by
      simp only [List.mem_cons, List.not_mem_nil, or_false, not_or] at hf
      exact zchg_o S i hf.1 hf.2
    have e11 := zchg_11 S i
    have e20 : zchg S i 20 (S 11 0 0) 0 = i := (zup_n _ (fun z => by omega)).trans (zup_s _ _ _ _ _)
    have e20' : ∀ j, j ≠ S 11 0 0 → zchg S i 20 j 0 = S 20 j 0 := fun j h => (zup_n _ (fun z => by omega)).trans (zup_n S (fun z => h z.2.1))
    have HH : zH (zchg S i) := zchg_H V.1 (by have := V.1 10 0 0; omega) (by omega)
    have v10 : ∀ j, j < S 11 0 0 → S 20 j 0 < S 10 0 0 := V.2 10 (by omega)
    have v11 : ∀ a, a < S 12 0 0 → S 39 a 0 ≤ S 11 0 0 ∧ S 16 a 0 ≤ 24 ∧ ∀ j, j < S 16 a 0 → S 21 a j < S 10 0 0 := V.2 11 (by omega)
    show zinvx (zchg S i)
    generalize zchg S i = S' at *
    refine ⟨HH, zv_gox V.2 [20, 11] [10, 11] u (by decide) ?_⟩
    intro k hk _
    simp only [List.mem_cons, List.not_mem_nil, or_false] at hk
    rcases hk with rfl | rfl
    · show ∀ j, j < S' 11 0 0 → S' 20 j 0 < S' 10 0 0
      rw [e11, u 10 (by decide)]
      intro j hj
      by_cases z : j = S 11 0 0
      · subst z; rw [e20]; exact hi
      · rw [e20' j z]; exact v10 j (by omega)
    · show ∀ a, a < S' 12 0 0 → S' 39 a 0 ≤ S' 11 0 0 ∧ S' 16 a 0 ≤ 24 ∧ ∀ j, j < S' 16 a 0 → S' 21 a j < S' 10 0 0
      rw [e11, u 10 (by decide), u 12 (by decide), u 39 (by decide), u 16 (by decide), u 21 (by decide)]
      intro a ha
      have := v11 a ha
      exact ⟨by omega, this.2⟩
  · exact V
theorem zX_sq (V : zinvx S) : ∀ n, n ≤ S 10 0 0 → S 11 0 0 + n < 1000000 → zinvx (zsq S n) := by
  intro n
  induction n with
  | zero => intro _ _; exact V
  | succ n ih =>
    intro hn h11
    have W := ih (by omega) (by omega)
    have h9 := zsq_11 S n
    have e10 : zsq S n 10 = S 10 := zsq_o S n (by omega) (by omega) (by omega) (by omega)
    have W2 := zX_cut W (i := n) (by rw [e10]; omega)
    unfold zsq
    split
    · exact zX_note W2 (by rw [zcut_o _ _ (by omega) (by omega), e10]; omega) (by rw [zcut_o _ _ (by omega) (by omega)]; omega)
    · exact W2
theorem zcut_33 (S : zS) (i : Nat) : zcut S i 33 = zcw S i (S 15 i 0) 33 := by
  unfold zcut
  split
  · exact zup_o _ (by omega)
  · rfl
/-- what songOut has cut -/
theorem zsq_33 (S : zS) : ∀ n a b, zsq S n 33 a b = if a < n ∧ b < S 15 a 0 ∧ S 33 a b = 0 ∧ zout S a b = true then 1 else S 33 a b := by
  intro n
  induction n with
  | zero => intro a b; rw [if_neg (fun y => by omega)]; rfl
  | succ n ih =>
    intro a b
    have o30 : zsq S n 30 = S 30 := zsq_o S n (by omega) (by omega) (by omega) (by omega)
    have o1 : zsq S n 1 = S 1 := zsq_o S n (by omega) (by omega) (by omega) (by omega)
    have o32 : zsq S n 32 = S 32 := zsq_o S n (by omega) (by omega) (by omega) (by omega)
    have o15 : zsq S n 15 = S 15 := zsq_o S n (by omega) (by omega) (by omega) (by omega)
    have e : zsq S (n + 1) 33 a b = zcut (zsq S n) n 33 a b := by
      show (if 0 < zcn (zsq S n) n (S 15 n 0) then znote (zcut (zsq S n) n) n else zcut (zsq S n) n) 33 a b = _
      split
      · rw [znote_o _ _ (by omega) (by omega)]
      · rfl
    rw [e, zcut_33, zcw_e, o15, zout_S o30 o1 o32]
    have i1 := ih n b
    rw [if_neg (fun y => by omega)] at i1
    rw [i1, ih a b]
    by_cases z : a = n
    · subst z
      by_cases y : b < S 15 a 0 ∧ S 33 a b = 0 ∧ zout S a b = true
      · rw [if_pos ⟨rfl, y⟩, if_pos ⟨by omega, y⟩]
      · rw [if_neg (fun w => y w.2), if_neg (fun w => by omega), if_neg (fun w => y w.2)]
    · rw [if_neg (c := a = n ∧ b < S 15 n 0 ∧ S 33 n b = 0 ∧ zout S n b = true) (fun w => z w.1)]
      by_cases y : a < n ∧ b < S 15 a 0 ∧ S 33 a b = 0 ∧ zout S a b = true
      · rw [if_pos y, if_pos ⟨by omega, y.2⟩]
      · rw [if_neg y, if_neg (fun w => y ⟨by omega, w.2⟩)]
theorem zX_song (V : zinv S) {v : Nat} (hv : v < 1024) : zinvx (zup S 1 0 0 v) := by
  refine ⟨zH_zup V.1 (by omega), zv_gox (fun k _ => V.2 k) [1] [1, 7] (fun f hf => zup_o S (fun y => hf (by rw [y]; exact List.mem_singleton.mpr rfl))) (by decide) ?_⟩
  intro k hk k7
  simp only [List.mem_cons, List.not_mem_nil, or_false] at hk
  rcases hk with rfl | rfl
  · show zup S 1 0 0 v 0 0 0 ≤ 9999 ∧ zup S 1 0 0 v 1 0 0 < 1024 ∧ zup S 1 0 0 v 2 0 0 < 1024 ∧ zup S 1 0 0 v 3 0 0 ≤ 200
    rw [zup_o S (show (0 : Nat) ≠ 1 by omega), zup_o S (show (2 : Nat) ≠ 1 by omega), zup_o S (show (3 : Nat) ≠ 1 by omega), zup_s]
    obtain ⟨p1, p2, p3, p4⟩ := zv_1 V
    exact ⟨p1, hv, p3, p4⟩
  · exact absurd rfl k7
theorem zV_songOut (V : zinv S) {n : Nat} (hn : n < 10) (h11 : S 11 0 0 < 900000) : zinv (zsq (zup S 1 0 0 (S 1 0 0 ||| 2 ^ n)) (S 10 0 0)) := by
  have hv : S 1 0 0 ||| 2 ^ n < 1024 := Nat.or_lt_two_pow (n := 10) (zv_1 V).2.1 (Nat.pow_lt_pow_right (by omega) hn)
  have W := zX_song V hv
  obtain ⟨g1, g2, g3, g4, g5⟩ := zv_2 V
  have e10 : zup S 1 0 0 (S 1 0 0 ||| 2 ^ n) 10 = S 10 := zup_o S (by omega)
  have e11 : zup S 1 0 0 (S 1 0 0 ||| 2 ^ n) 11 = S 11 := zup_o S (by omega)
  have W2 := zX_sq W (S 10 0 0) (by rw [e10]; exact Nat.le_refl _) (by rw [e11]; omega)
  have c33 := zsq_33 (zup S 1 0 0 (S 1 0 0 ||| 2 ^ n)) (S 10 0 0)
  have o10 : zsq (zup S 1 0 0 (S 1 0 0 ||| 2 ^ n)) (S 10 0 0) 10 = S 10 := (zsq_o _ _ (by omega) (by omega) (by omega) (by omega)).trans e10
  have o15 : zsq (zup S 1 0 0 (S 1 0 0 ||| 2 ^ n)) (S 10 0 0) 15 = S 15 := (zsq_o _ _ (by omega) (by omega) (by omega) (by omega)).trans (zup_o S (by omega))
  have o30 : zsq (zup S 1 0 0 (S 1 0 0 ||| 2 ^ n)) (S 10 0 0) 30 = zup S 1 0 0 (S 1 0 0 ||| 2 ^ n) 30 := zsq_o _ _ (by omega) (by omega) (by omega) (by omega)
  have o1 : zsq (zup S 1 0 0 (S 1 0 0 ||| 2 ^ n)) (S 10 0 0) 1 = zup S 1 0 0 (S 1 0 0 ||| 2 ^ n) 1 := zsq_o _ _ (by omega) (by omega) (by omega) (by omega)
  have o32 : zsq (zup S 1 0 0 (S 1 0 0 ||| 2 ^ n)) (S 10 0 0) 32 = zup S 1 0 0 (S 1 0 0 ||| 2 ^ n) 32 := zsq_o _ _ (by omega) (by omega) (by omega) (by omega)
  have hout := fun i j => zout_S (S := zup S 1 0 0 (S 1 0 0 ||| 2 ^ n)) o30 o1 o32 i j
  refine ⟨W2.1, fun k => ?_⟩
  by_cases k7 : k = 7
  · subst k7
    show ∀ i j, i < zsq (zup S 1 0 0 (S 1 0 0 ||| 2 ^ n)) (S 10 0 0) 10 0 0 → j < zsq (zup S 1 0 0 (S 1 0 0 ||| 2 ^ n)) (S 10 0 0) 15 i 0 → zsq (zup S 1 0 0 (S 1 0 0 ||| 2 ^ n)) (S 10 0 0) 33 i j = 0 → zout (zsq (zup S 1 0 0 (S 1 0 0 ||| 2 ^ n)) (S 10 0 0)) i j = false
    rw [o10, o15]
    intro i j hi hj h
    rw [hout]
    rw [c33, zup_o S (show (15 : Nat) ≠ 1 by omega), zup_o S (show (33 : Nat) ≠ 1 by omega)] at h
    by_cases y : S 33 i j = 0 ∧ zout (zup S 1 0 0 (S 1 0 0 ||| 2 ^ n)) i j = true
    · rw [if_pos ⟨hi, hj, y⟩] at h; cases h
    · rw [if_neg (fun w => y w.2.2)] at h
      exact (Bool.not_eq_true _).mp (fun w => y ⟨h, w⟩)
  · exact W2.2 k k7
end ZRZ
