/-! THE BEGINNING (3): what lies there takes its roles -/
section ZSM
variable {G : za_G} {B : zB} {S : zS} {T : zT}
theorem p_all {h : za_H} : ∀ (l : List (zQ × Nat)), (l.map (fun p => p.1)).Nodup → (l.map (fun p => p.2)).Nodup → (∀ p ∈ l, h p.2 = some (zcon B S T p.1)) → ∃ A r0, h = zmk A B S T r0 ∧ zF A ∧ (∀ p ∈ l, A.1 p.1 = p.2 ∧ zV A p.1) ∧ (∀ a, a ∉ l.map (fun p => p.2) → A.2 a = none ∧ r0 a = h a) ∧ ∀ r, r ∉ l.map (fun p => p.1) → ¬ zV A r
  | [], _, _, _ => ⟨(fun _ => 0, fun _ => none), h, rfl, fun q r y => (by cases y), fun p hp => absurd hp List.not_mem_nil, fun a _ => ⟨rfl, rfl⟩, fun r _ y => (by cases y)⟩
  | (r, q) :: l, n1, n2, hh => by
    rw [List.map_cons, List.nodup_cons] at n1 n2
    obtain ⟨A, r0, e1, e2, e3, e4, e5⟩ := p_all l n1.2 n2.2 (fun p hp => hh p (List.mem_cons_of_mem _ hp))
    obtain ⟨m1, m2⟩ := e4 q n2.1
    refine ⟨zad A r q, zr0 A r (zcon B S T r) r0, ?_, zad_F e2 _ _, fun p hp => ?_, fun a ha => ?_, fun r' hr' => ?_⟩
    · refine e1.trans (zmk_ad m1 ?_ (fun _ _ => rfl))
      rw [m2]
      exact hh (r, q) List.mem_cons_self
    · rcases List.mem_cons.mp hp with y | y
      · rw [y]; exact ⟨zad_s _ _ _, zad_V _ _ _⟩
      · have hn : p.1 ≠ r := fun z => n1.1 (by rw [← z]; exact List.mem_map.mpr ⟨p, y, rfl⟩)
        obtain ⟨k1, k2⟩ := e3 p y
        exact ⟨(zad_n _ _ hn).trans k1, (zad_Vn m1 hn).mpr k2⟩
    · rw [List.map_cons, List.mem_cons, not_or] at ha
      obtain ⟨k1, k2⟩ := e4 a ha.2
      exact ⟨zad_no k1 ha.1, (zr0_no k1).trans k2⟩
    · rw [List.map_cons, List.mem_cons, not_or] at hr'
      exact fun y => e5 r' hr'.2 ((zad_Vn m1 hr'.1).mp y)
/-- all is nought -/
def zS0 : zS := fun _ _ _ => 0
/-- the addresses of the beginning -/
def zB0 (t : Nat) (l : Nat → Nat) (ρ : Nat → Nat) (n : Nat) : zB := (fun f i _ => if f = 0 then l (i - 10) else if f = 1 then l 5 else if f = 7 then t else if f = 10 then ρ i else if f = 11 then n else 0, fun _ _ => fun _ => none, fun _ _ => nI 0)
/-- the model's rows -/
def zrw : List Nat := zrk 50
/-- the roles of the beginning -/
def zl0 (a m o s : Nat) (l ρ : Nat → Nat) : List (zQ × Nat) := [((0, 0, 0), a), ((10, 0, 0), l 0), ((11, 0, 0), l 1), ((12, 0, 0), l 2), ((13, 0, 0), l 3), ((14, 0, 0), l 4), ((15, 0, 0), l 5), ((30, 0, 0), m), ((90, 0, 0), o), ((91, 0, 0), s)] ++ zrw.map (fun k => ((31, k, 0), ρ k))
theorem zl0_1 (a m o s : Nat) (l ρ : Nat → Nat) : (zl0 a m o s l ρ).map (fun p => p.1) = [(0, 0, 0), (10, 0, 0), (11, 0, 0), (12, 0, 0), (13, 0, 0), (14, 0, 0), (15, 0, 0), (30, 0, 0), (90, 0, 0), (91, 0, 0)] ++ zrw.map (fun k => ((31, k, 0) : zQ)) := by
  unfold zl0
  rw [List.map_append, List.map_map]
  rfl
theorem zl0_2 (a m o s : Nat) (l ρ : Nat → Nat) : (zl0 a m o s l ρ).map (fun p => p.2) = [a, l 0, l 1, l 2, l 3, l 4, l 5, m, o, s] ++ zrw.map ρ := by
  unfold zl0
  rw [List.map_append, List.map_map]
  rfl
theorem zI_init {h : za_H} {a m o s n : Nat} {l ρ : Nat → Nat} (ht : h G.t = none) (hd : ([a, l 0, l 1, l 2, l 3, l 4, l 5, m, o, s] ++ zrw.map ρ).Nodup) (hh : ∀ p ∈ zl0 a m o s l ρ, h p.2 = some (zcon (zB0 G.t l ρ n) zS0 T p.1)) : ∃ A r0, h = zmk A (zB0 G.t l ρ n) zS0 T r0 ∧ zI G A (zB0 G.t l ρ n) zS0 r0 ∧ zMo A (zB0 G.t l ρ n) ∧ (zV A (90, 0, 0) ∧ A.1 (90, 0, 0) = o) ∧ (zV A (91, 0, 0) ∧ A.1 (91, 0, 0) = s) ∧ A.1 (0, 0, 0) = a ∧ A.1 (30, 0, 0) = m := by
  obtain ⟨A, r0, e1, e2, e3, e4, e5⟩ := p_all (zl0 a m o s l ρ) (by rw [zl0_1]; decide +kernel) (by rw [zl0_2]; exact hd) hh
  have tn : G.t ∉ (zl0 a m o s l ρ).map (fun p => p.2) := fun y => by
    obtain ⟨p, p1, p2⟩ := List.mem_map.mp y
    have := hh p p1
    rw [p2, ht] at this
    cases this
  obtain ⟨t1, t2⟩ := e4 _ tn
  have mem : ∀ p, p ∈ [((0, 0, 0), a), ((10, 0, 0), l 0), ((11, 0, 0), l 1), ((12, 0, 0), l 2), ((13, 0, 0), l 3), ((14, 0, 0), l 4), ((15, 0, 0), l 5), ((30, 0, 0), m), ((90, 0, 0), o), (((91, 0, 0) : zQ), s)] → A.1 p.1 = p.2 ∧ zV A p.1 := fun p hp => e3 p (List.mem_append_left _ hp)
  have f0 := mem ((0, 0, 0), a) (by simp)
  have f10 := mem ((10, 0, 0), l 0) (by simp)
  have f11 := mem ((11, 0, 0), l 1) (by simp)
  have f12 := mem ((12, 0, 0), l 2) (by simp)
  have f13 := mem ((13, 0, 0), l 3) (by simp)
  have f14 := mem ((14, 0, 0), l 4) (by simp)
  have f15 := mem ((15, 0, 0), l 5) (by simp)
  have f30 := mem ((30, 0, 0), m) (by simp)
  have f90 := mem ((90, 0, 0), o) (by simp)
  have f91 := mem ((91, 0, 0), s) (by simp)
  have row : ∀ k, k < 50 → zms k = false → A.1 (31, k, 0) = ρ k ∧ zV A (31, k, 0) := fun k hk hm => e3 ((31, k, 0), ρ k) (List.mem_append_right _ (List.mem_map.mpr ⟨k, zrk_m.mpr ⟨hk, hm⟩, rfl⟩))
  have nr : ∀ k i j, 1 ≤ k → k ≤ 7 → ¬ zV A (k, i, j) := fun k i j h1 h7 => e5 _ (by
    rw [zl0_1]
    intro y
    rcases List.mem_append.mp y with y | y
    · simp only [List.mem_cons, List.not_mem_nil, Prod.mk.injEq, or_false] at y
      omega
    · obtain ⟨b, b1, b2⟩ := List.mem_map.mp y
      have := congrArg Prod.fst b2
      have : 31 = k := this
      omega)
  have nl : ∀ k i j, 1 ≤ k → k ≤ 7 → ¬ zLv zS0 k i j := fun k i j h1 h7 => by
    have c : k = 1 ∨ k = 2 ∨ k = 3 ∨ k = 4 ∨ k = 5 ∨ k = 6 ∨ k = 7 := by omega
    rcases c with y | y | y | y | y | y | y <;> subst y <;> intro z
    · exact Nat.not_lt_zero _ z.2
    all_goals exact Nat.not_lt_zero _ z.1
  have ll : ∀ k i, zLb zS0 k i → (k = 10 ∨ k = 11 ∨ k = 12 ∨ k = 13 ∨ k = 14 ∨ k = 15) ∧ i = 0 := fun k i z => by
    unfold zLb at z
    split at z
    · exact ⟨by omega, z⟩
    · exact ⟨by omega, z⟩
    · exact ⟨by omega, z⟩
    · exact ⟨by omega, z⟩
    · exact ⟨by omega, z⟩
    · exact ⟨by omega, Nat.le_zero.mp z⟩
    · exact absurd z (Nat.not_lt_zero _)
    · exact absurd z (Nat.not_lt_zero _)
    · exact absurd z (Nat.not_lt_zero _)
    · exact z.elim
  refine ⟨A, r0, e1, ⟨⟨e2, ⟨t1, t2.trans ht⟩, f0.2, fun k i j h1 h7 z => absurd z (nl k i j h1 h7), fun k i z => ?_, ⟨fun k h1 h2 => ?_, f15.1.symm, fun i hi => absurd hi (Nat.not_lt_zero _), fun i hi => absurd hi (Nat.not_lt_zero _), fun i hi => absurd hi (Nat.not_lt_zero _)⟩, Nat.le_refl _⟩, fun k i j h1 h7 z => absurd z (nr k i j h1 h7)⟩, ⟨e2, f30.2, fun k hk hm => ⟨(row k hk hm).2, (row k hk hm).1.symm⟩⟩, ⟨f90.2, f90.1⟩, ⟨f91.2, f91.1⟩, f0.1, f30.1⟩
  · obtain ⟨z1, z2⟩ := ll k i z
    subst z2
    have hv : zV A (k, 0, 0) := by
      rcases z1 with y | y | y | y | y | y <;> subst y
      · exact f10.2
      · exact f11.2
      · exact f12.2
      · exact f13.2
      · exact f14.2
      · exact f15.2
    exact ⟨hv, Nat.le_refl _, Nat.zero_le _, fun _ => rfl, fun y => absurd y (Nat.not_lt_zero _), fun j hj => absurd hj (Nat.not_lt_zero _)⟩
  · have c : k = 10 ∨ k = 11 ∨ k = 12 ∨ k = 13 ∨ k = 14 := by omega
    rcases c with y | y | y | y | y <;> subst y
    · exact f10.1.symm
    · exact f11.1.symm
    · exact f12.1.symm
    · exact f13.1.symm
    · exact f14.1.symm
end ZSM
