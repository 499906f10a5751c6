/-! WHAT IS LOADED -/
section ZRM
variable {S : zS}
theorem zld_t (d s : Nat) : ∀ n, zld S d s n = true ↔ ∃ r, r < n ∧ S 59 d r ≤ s ∧ s < S 60 d r := by
  intro n
  induction n with
  | zero => exact ⟨fun h => (by cases h), fun ⟨r, h, _⟩ => by omega⟩
  | succ n ih =>
    unfold zld
    rw [Bool.or_eq_true, ih, Bool.and_eq_true, decide_eq_true_iff, decide_eq_true_iff]
    constructor
    · rintro (⟨r, h1, h2⟩ | h)
      · exact ⟨r, by omega, h2⟩
      · exact ⟨n, by omega, h⟩
    · rintro ⟨r, h1, h2⟩
      by_cases z : r = n
      · subst z; exact Or.inr h2
      · exact Or.inl ⟨r, by omega, h2⟩
theorem zld_f (d s n : Nat) : zld S d s n = false ↔ ∀ r, r < n → S 59 d r ≤ s → S 60 d r ≤ s := by
  rw [← Bool.not_eq_true, zld_t]
  constructor
  · intro h r h1 h2
    exact Nat.le_of_not_lt fun y => h ⟨r, h1, h2, y⟩
  · rintro h ⟨r, h1, h2, h3⟩
    have := h r h1 h2
    omega
theorem zlu_in (d s n : Nat) (h : s < zlu S d s n) : ∃ r, r < n ∧ S 59 d r ≤ s ∧ S 60 d r = zlu S d s n := by
  induction n with
  | zero => exact absurd h (Nat.lt_irrefl _)
  | succ n ih =>
    unfold zlu at h ⊢
    by_cases z : S 59 d n ≤ s ∧ zlu S d s n < S 60 d n
    · rw [if_pos z]; exact ⟨n, by omega, z.1, rfl⟩
    · rw [if_neg z] at h ⊢
      obtain ⟨r, h1, h2⟩ := ih h
      exact ⟨r, by omega, h2⟩
theorem zlu_all (d s n : Nat) {t : Nat} (h : s ≤ t) (h2 : t < zlu S d s n) : zld S d t n = true := by
  obtain ⟨r, r1, r2, r3⟩ := zlu_in (S := S) d s n (by omega)
  rw [zld_t]
  exact ⟨r, r1, by omega, by omega⟩
theorem zlu_max (d s n : Nat) : ∀ r, r < n → S 59 d r ≤ s → S 60 d r ≤ zlu S d s n := by
  induction n with
  | zero => intro r h; omega
  | succ n ih =>
    intro r h1 h2
    unfold zlu
    by_cases z : r = n
    · subst z
      by_cases y : S 59 d r ≤ s ∧ zlu S d s r < S 60 d r
      · rw [if_pos y]; exact Nat.le_refl _
      · rw [if_neg y]; omega
    · have := ih r (by omega) h2
      split <;> omega
theorem zlu_no (d s n : Nat) (h : zlu S d s n ≤ s) : zld S d s n = false := by
  rw [zld_f]
  intro r h1 h2
  have := zlu_max (S := S) d s n r h1 h2
  omega
theorem znr_le (d s lim n : Nat) : znr S d s lim n ≤ lim := by
  induction n with
  | zero => exact Nat.le_refl _
  | succ n ih => unfold znr; split <;> omega
theorem znr_min (d s lim n : Nat) : ∀ r, r < n → s < S 59 d r → znr S d s lim n ≤ S 59 d r := by
  induction n with
  | zero => intro r h; omega
  | succ n ih =>
    intro r h1 h2
    unfold znr
    by_cases z : r = n
    · subst z
      by_cases y : s < S 59 d r ∧ S 59 d r < znr S d s lim r
      · rw [if_pos y]; exact Nat.le_refl _
      · rw [if_neg y]; omega
    · have := ih r (by omega) h2
      split <;> omega
theorem znr_no (d s lim n : Nat) (h : zld S d s n = false) {t : Nat} (h1 : s ≤ t) (h2 : t < znr S d s lim n) : zld S d t n = false := by
  rw [zld_f] at h ⊢
  intro r r1 r2
  by_cases z : S 59 d r ≤ s
  · have := h r r1 z; omega
  · have := znr_min (S := S) d s lim n r r1 (by omega); omega
theorem zlc_all (d a : Nat) : ∀ k, (∀ s, a ≤ s → s < a + k → zld S d s (S 18 d 0) = true) → zlc S d (a + k) = zlc S d a + k := by
  intro k
  induction k with
  | zero => intro _; rfl
  | succ k ih =>
    intro h
    show zlc S d (a + k) + (if zld S d (a + k) (S 18 d 0) = true then 1 else 0) = _
    rw [ih (fun s h1 h2 => h s h1 (by omega)), if_pos (h (a + k) (by omega) (by omega))]
    omega
theorem zlc_none (d a : Nat) : ∀ k, (∀ s, a ≤ s → s < a + k → zld S d s (S 18 d 0) = false) → zlc S d (a + k) = zlc S d a := by
  intro k
  induction k with
  | zero => intro _; rfl
  | succ k ih =>
    intro h
    show zlc S d (a + k) + (if zld S d (a + k) (S 18 d 0) = true then 1 else 0) = _
    rw [ih (fun s h1 h2 => h s h1 (by omega)), if_neg (by rw [h (a + k) (by omega) (by omega)]; decide)]
    omega
theorem zlc_m (d a k : Nat) : zlc S d a ≤ zlc S d (a + k) ∧ zlc S d (a + k) ≤ zlc S d a + k := by
  induction k with
  | zero => exact ⟨Nat.le_refl _, Nat.le_refl _⟩
  | succ k ih =>
    show zlc S d a ≤ zlc S d (a + k) + (if zld S d (a + k) (S 18 d 0) = true then 1 else 0) ∧ zlc S d (a + k) + (if zld S d (a + k) (S 18 d 0) = true then 1 else 0) ≤ _
    split <;> omega
/-- the class's scan counts what is loaded -/
theorem zlin_c (d t : Nat) : ∀ k a, a ≤ t → t ≤ a + k → zlc S d a + zlin S d t k a = zlc S d t := by
  intro k
  induction k with
  | zero =>
    intro a h1 h2
    have : a = t := by omega
    subst this
    rfl
  | succ k ih =>
    intro a h1 h2
    unfold zlin
    by_cases z : a < t
    · rw [if_pos z]
      have hge := zlu_ge S d a (S 18 d 0)
      unfold znx
      by_cases y : a < min t (zlu S d a (S 18 d 0))
      · rw [if_pos y]
        have e1 : max (a + 1) (min t (zlu S d a (S 18 d 0))) = min t (zlu S d a (S 18 d 0)) := by omega
        rw [e1]
        have hi := ih (min t (zlu S d a (S 18 d 0))) (by omega) (by omega)
        have ha := zlc_all (S := S) d a (min t (zlu S d a (S 18 d 0)) - a) (fun s s1 s2 => zlu_all d a _ s1 (by omega))
        rw [show a + (min t (zlu S d a (S 18 d 0)) - a) = min t (zlu S d a (S 18 d 0)) by omega] at ha
        omega
      · rw [if_neg y]
        have hno := zlu_no (S := S) d a (S 18 d 0) (by omega)
        have hle := znr_le (S := S) d a t (S 18 d 0)
        have hi := ih (max (a + 1) (znr S d a t (S 18 d 0))) (by omega) (by omega)
        have ha := zlc_none (S := S) d a (max (a + 1) (znr S d a t (S 18 d 0)) - a) (fun s s1 s2 => by
          by_cases w : s = a
          · subst w; exact hno
          · exact znr_no d a t _ hno s1 (by omega))
        rw [show a + (max (a + 1) (znr S d a t (S 18 d 0)) - a) = max (a + 1) (znr S d a t (S 18 d 0)) by omega] at ha
        omega
    · rw [if_neg z]
      have : a = t := by omega
      subst this
      rfl
theorem zlin_e (d : Nat) {f t : Nat} (h : f ≤ t) : zlin S d t (t - f) f = zlc S d t - zlc S d f := by
  have := zlin_c (S := S) d t (t - f) f h (by omega)
  omega
theorem zlc_full (d a : Nat) : ∀ k, zlc S d (a + k) = zlc S d a + k → ∀ s, a ≤ s → s < a + k → zld S d s (S 18 d 0) = true := by
  intro k
  induction k with
  | zero => intro _ s h1 h2; omega
  | succ k ih =>
    intro h s h1 h2
    have hm := zlc_m (S := S) d a k
    have h9 : zlc S d (a + k) + (if zld S d (a + k) (S 18 d 0) = true then 1 else 0) = zlc S d a + (k + 1) := h
    by_cases z : zld S d (a + k) (S 18 d 0) = true
    · rw [if_pos z] at h9
      by_cases y : s = a + k
      · subst y; exact z
      · exact ih (by omega) s h1 (by omega)
    · rw [if_neg z] at h9; omega
/-- the last loaded second of some, and one; 0: none -/
def zlm (S : zS) (d a : Nat) : Nat → Nat
  | 0 => 0
  | n + 1 => if zld S d (a + n) (S 18 d 0) = true then n + 1 else zlm S d a n
theorem zlm_le (d a n : Nat) : zlm S d a n ≤ n := by
  induction n with
  | zero => exact Nat.le_refl _
  | succ n ih => unfold zlm; split <;> omega
theorem zlm_in (d a n : Nat) (h : zlm S d a n ≠ 0) : zld S d (a + (zlm S d a n - 1)) (S 18 d 0) = true := by
  induction n with
  | zero => exact absurd rfl h
  | succ n ih =>
    unfold zlm at h ⊢
    by_cases z : zld S d (a + n) (S 18 d 0) = true
    · rw [if_pos z, Nat.add_sub_cancel]; exact z
    · rw [if_neg z] at h ⊢; exact ih h
theorem zlm_max (d a n : Nat) : ∀ s, s < n → zld S d (a + s) (S 18 d 0) = true → s < zlm S d a n := by
  induction n with
  | zero => intro s h; omega
  | succ n ih =>
    intro s h1 h2
    unfold zlm
    by_cases z : zld S d (a + n) (S 18 d 0) = true
    · rw [if_pos z]; omega
    · rw [if_neg z]
      by_cases y : s = n
      · subst y; exact absurd h2 z
      · exact ih s (by omega) h2
theorem zll_in (d f t n : Nat) (h : zll S d f t n ≠ 0) : f < zll S d f t n ∧ zll S d f t n ≤ t ∧ zld S d (zll S d f t n - 1) n = true := by
  induction n with
  | zero => exact absurd rfl h
  | succ n ih =>
    have e : zll S d f t (n + 1) = if max f (S 59 d n) < min t (S 60 d n) then max (zll S d f t n) (min t (S 60 d n)) else zll S d f t n := rfl
    by_cases z : max f (S 59 d n) < min t (S 60 d n)
    · rw [if_pos z] at e
      rw [e]
      by_cases y : zll S d f t n ≤ min t (S 60 d n)
      · rw [Nat.max_eq_right y]
        refine ⟨by omega, by omega, ?_⟩
        rw [zld_t]
        exact ⟨n, by omega, by omega, by omega⟩
      · rw [Nat.max_eq_left (by omega)]
        obtain ⟨a1, a2, a3⟩ := ih (by omega)
        refine ⟨a1, a2, ?_⟩
        rw [zld_t] at a3 ⊢
        obtain ⟨r, r1, r2⟩ := a3
        exact ⟨r, by omega, r2⟩
    · rw [if_neg z] at e
      rw [e] at h ⊢
      obtain ⟨a1, a2, a3⟩ := ih h
      refine ⟨a1, a2, ?_⟩
      rw [zld_t] at a3 ⊢
      obtain ⟨r, r1, r2⟩ := a3
      exact ⟨r, by omega, r2⟩
theorem zll_max (d f t n : Nat) : ∀ s, f ≤ s → s < t → zld S d s n = true → s < zll S d f t n := by
  induction n with
  | zero => intro s h1 h2 h3; cases h3
  | succ n ih =>
    intro s h1 h2 h3
    have e : zll S d f t (n + 1) = if max f (S 59 d n) < min t (S 60 d n) then max (zll S d f t n) (min t (S 60 d n)) else zll S d f t n := rfl
    rw [zld_t] at h3
    obtain ⟨r, r1, r2, r3⟩ := h3
    rw [e]
    by_cases y : r = n
    · subst y
      rw [if_pos (by omega)]
      omega
    · have := ih s h1 h2 ((zld_t d s n).mpr ⟨r, by omega, r2, r3⟩)
      split <;> omega
theorem zll_m (d a len : Nat) : zll S d a (a + len) (S 18 d 0) = if zlm S d a len = 0 then 0 else a + zlm S d a len := by
  have hle := zlm_le (S := S) d a len
  by_cases z : zlm S d a len = 0
  · rw [if_pos z]
    refine Decidable.byContradiction fun y => ?_
    obtain ⟨h1, h2, h3⟩ := zll_in (S := S) d a (a + len) (S 18 d 0) y
    have := zlm_max (S := S) d a len (zll S d a (a + len) (S 18 d 0) - 1 - a) (by omega) (by rw [show a + (zll S d a (a + len) (S 18 d 0) - 1 - a) = zll S d a (a + len) (S 18 d 0) - 1 by omega]; exact h3)
    omega
  · rw [if_neg z]
    have h1 := zll_max (S := S) d a (a + len) (S 18 d 0) (a + (zlm S d a len - 1)) (by omega) (by omega) (zlm_in d a len z)
    obtain ⟨h4, h2, h3⟩ := zll_in (S := S) d a (a + len) (S 18 d 0) (by omega)
    have := zlm_max (S := S) d a len (zll S d a (a + len) (S 18 d 0) - 1 - a) (by omega) (by rw [show a + (zll S d a (a + len) (S 18 d 0) - 1 - a) = zll S d a (a + len) (S 18 d 0) - 1 by omega]; exact h3)
    omega
end ZRM
