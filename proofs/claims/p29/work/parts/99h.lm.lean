/-! THE LAW (13): the beginning -/
section YLM
variable {G : za_G} {A A' : zA} {B B' : zB} {S S' : zS} {T T' : zT} {r0 r0' : za_H} {x0 x1 x2 x3 x9 n : Nat} {f : Nat → Int32} {w : za_N} {mc ms : Nat} {K : za_O → za_H → Prop}
/-- the script alone -/
def zh0 (b n : Nat) (f : Nat → Int32) : za_H := za_up (fun _ => none) b (.inl (.int, n, .inl f))
def zT1 (f : Nat → Int32) : zT := (fun k => if k = 91 then f else fun _ => 0, fun _ => 0)
def zl6 (l0 l1 l2 l3 l4 l5 : Nat) : Nat → Nat := fun k => if k = 0 then l0 else if k = 1 then l1 else if k = 2 then l2 else if k = 3 then l3 else if k = 4 then l4 else l5
/-- the addresses of the beginning -/
def zB0 (t : Nat) (l : Nat → Nat) (n : Nat) : zB := (fun f i _ => if f = 0 then l (i - 10) else if f = 1 then l 5 else if f = 7 then t else if f = 11 then n else 0, fun _ _ => fun _ => none, fun _ _ => nI 0)
/-- the roles of the beginning -/
def yl0 (a o1 o2 o3 b : Nat) (l : Nat → Nat) : List (zQ × Nat) := [((31, 3, 0), o3), ((31, 2, 0), o2), ((31, 1, 0), o1), ((15, 0, 0), l 5), ((14, 0, 0), l 4), ((13, 0, 0), l 3), ((12, 0, 0), l 2), ((11, 0, 0), l 1), ((10, 0, 0), l 0), ((0, 0, 0), a), ((91, 0, 0), b)]
theorem yI_init {h : za_H} {a o1 o2 o3 b : Nat} {l : Nat → Nat} (ht : h G.t = none) (hd : [o3, o2, o1, l 5, l 4, l 3, l 2, l 1, l 0, a, b].Nodup) (hh : ∀ p ∈ yl0 a o1 o2 o3 b l, h p.2 = some (zcon (zB0 G.t l n) zS0 T p.1)) : ∃ A r0, h = zmk A (zB0 G.t l n) zS0 T r0 ∧ zI G A (zB0 G.t l n) zS0 r0 ∧ zMo A ∧ A.1 (0, 0, 0) = a ∧ A.1 (31, 1, 0) = o1 ∧ A.1 (31, 2, 0) = o2 ∧ A.1 (31, 3, 0) = o3 ∧ A.1 (91, 0, 0) = b := by
  have e2l : (yl0 a o1 o2 o3 b l).map (fun p => p.2) = [o3, o2, o1, l 5, l 4, l 3, l 2, l 1, l 0, a, b] := rfl
  have e1l : (yl0 a o1 o2 o3 b l).map (fun p => p.1) = [(31, 3, 0), (31, 2, 0), (31, 1, 0), (15, 0, 0), (14, 0, 0), (13, 0, 0), (12, 0, 0), (11, 0, 0), (10, 0, 0), (0, 0, 0), (91, 0, 0)] := rfl
  obtain ⟨A, r0, e1, e2, e3, e4, e5⟩ := p_all (yl0 a o1 o2 o3 b l) (by rw [e1l]; decide +kernel) (by rw [e2l]; exact hd) hh
  have tn : G.t ∉ (yl0 a o1 o2 o3 b l).map (fun p => p.2) := fun y => by
    obtain ⟨p, p1, p2⟩ := List.mem_map.mp y
    have := hh p p1
    rw [p2, ht] at this
    cases this
  obtain ⟨t1, t2⟩ := e4 _ tn
  have f0 := e3 ((0, 0, 0), a) (by simp [yl0])
  have f10 := e3 ((10, 0, 0), l 0) (by simp [yl0])
  have f11 := e3 ((11, 0, 0), l 1) (by simp [yl0])
  have f12 := e3 ((12, 0, 0), l 2) (by simp [yl0])
  have f13 := e3 ((13, 0, 0), l 3) (by simp [yl0])
  have f14 := e3 ((14, 0, 0), l 4) (by simp [yl0])
  have f15 := e3 ((15, 0, 0), l 5) (by simp [yl0])
  have g1 := e3 ((31, 1, 0), o1) (by simp [yl0])
  have g2 := e3 ((31, 2, 0), o2) (by simp [yl0])
  have g3 := e3 ((31, 3, 0), o3) (by simp [yl0])
  have f91 := e3 ((91, 0, 0), b) (by simp [yl0])
  have nr : ∀ k i j, 1 ≤ k → k ≤ 7 → ¬ zV A (k, i, j) := fun k i j h1 h7 => e5 _ (by
    rw [e1l]
    intro y
    simp only [List.mem_cons, List.not_mem_nil, Prod.mk.injEq, or_false] at y
    omega)
  have nl : ∀ k i j, 1 ≤ k → k ≤ 7 → ¬ zLv zS0 k i j := fun k i j h1 h7 => by
    have c : k = 1 ∨ k = 2 ∨ k = 3 ∨ k = 4 ∨ k = 5 ∨ k = 6 ∨ k = 7 := by omega
    rcases c with y | y | y | y | y | y | y <;> subst y <;> intro z
    · exact Nat.not_lt_zero _ z.2
    all_goals exact Nat.not_lt_zero _ z.1
  have ll : ∀ k i, zLb zS0 k i → (k = 10 ∨ k = 11 ∨ k = 12 ∨ k = 13 ∨ k = 14 ∨ k = 15) ∧ i = 0 := fun k i z => by
    unfold zLb at z
    split at z
    · exact ⟨by omega, z⟩
    · exact ⟨by omega, z⟩
    · exact ⟨by omega, z⟩
    · exact ⟨by omega, z⟩
    · exact ⟨by omega, z⟩
    · exact ⟨by omega, Nat.le_zero.mp z⟩
    · exact absurd z (Nat.not_lt_zero _)
    · exact absurd z (Nat.not_lt_zero _)
    · exact absurd z (Nat.not_lt_zero _)
    · exact z.elim
  refine ⟨A, r0, e1, ⟨⟨e2, ⟨t1, t2.trans ht⟩, f0.2, fun k i j h1 h7 z => absurd z (nl k i j h1 h7), fun k i z => ?_, ⟨fun k h1 h2 => ?_, f15.1.symm, fun i hi => absurd hi (Nat.not_lt_zero _), fun i hi => absurd hi (Nat.not_lt_zero _), fun i hi => absurd hi (Nat.not_lt_zero _)⟩, Nat.le_refl _⟩, fun k i j h1 h7 z => absurd z (nr k i j h1 h7)⟩, ⟨g1.2, g2.2, g3.2, f91.2⟩, f0.1, g1.1, g2.1, g3.1, f91.1⟩
  · obtain ⟨z1, z2⟩ := ll k i z
    subst z2
    have hv : zV A (k, 0, 0) := by
      rcases z1 with y | y | y | y | y | y <;> subst y
      · exact f10.2
      · exact f11.2
      · exact f12.2
      · exact f13.2
      · exact f14.2
      · exact f15.2
    exact ⟨hv, Nat.le_refl _, Nat.zero_le _, fun _ => rfl, fun y => absurd y (Nat.not_lt_zero _), fun j hj => absurd hj (Nat.not_lt_zero _)⟩
  · have c : k = 10 ∨ k = 11 ∨ k = 12 ∨ k = 13 ∨ k = 14 := by omega
    rcases c with y | y | y | y | y <;> subst y
    · exact f10.1.symm
    · exact f11.1.symm
    · exact f12.1.symm
    · exact f13.1.symm
    · exact f14.1.symm
/-- what stands when the tower and the three rows are made -/
theorem ystart_1 {b : Nat} {a o1 o2 o3 l0 l1 l2 l3 l4 l5 : Nat} {h1 : za_H} {e1 : za_E} (hb : b ≠ G.t) (hna : za_nn G (zh0 b n f) a)
    (f1 : h1 a = some (.inr (4, [.ref l0, .ref l1, .ref l2, .ref l3, .ref l4, .ref l5, .int (nI 0), .int (nI 0), .int (nI 0), .int (nI 0)])))
    (N1 : zi_N G (za_up (zh0 b n f) a e1) h1 a [(l5, ze_L G), (l4, ze_L G), (l3, ze_L G), (l2, ze_L G), (l1, ze_L G), (l0, ze_L G)])
    (hn1 : za_nn G h1 o1) (hn2 : za_nn G (za_up h1 o1 (.inl (.int, 48, .inl (fun _ => 0)))) o2) (hn3 : za_nn G (za_up (za_up h1 o1 (.inl (.int, 48, .inl (fun _ => 0)))) o2 (.inl (.int, 2, .inl (fun _ => 0)))) o3) :
    ∃ A B r0, za_up (za_up (za_up h1 o1 (.inl (.int, 48, .inl (fun _ => 0)))) o2 (.inl (.int, 2, .inl (fun _ => 0)))) o3 (.inl (.int, 24, .inl (fun _ => 0))) = zmk A B zS0 (zT1 f) r0 ∧ zI G A B zS0 r0 ∧ zMo A ∧ (A.1 (0, 0, 0) = a ∧ A.1 (31, 1, 0) = o1 ∧ A.1 (31, 2, 0) = o2 ∧ A.1 (31, 3, 0) = o3 ∧ A.1 (91, 0, 0) = b) ∧ B.1 11 0 0 = n := by
  have hab : a ≠ b := fun z => by
    have := hna.1
    rw [z] at this
    unfold zh0 at this
    rw [za_up_s] at this
    cases this
  obtain ⟨n1, n2, n3⟩ := N1
  have M1 : ((([(l5, ze_L G), (l4, ze_L G), (l3, ze_L G), (l2, ze_L G), (l1, ze_L G), (l0, ze_L G)] : List (Nat × za_E))).map (fun p => p.1)) = [l5, l4, l3, l2, l1, l0] := rfl
  rw [M1] at n1 n3
  have hbl : b ∉ [l5, l4, l3, l2, l1, l0] := fun y => by
    rw [← M1] at y
    obtain ⟨p, p1, p2⟩ := List.mem_map.mp y
    have := (n2 p p1).2.2.1
    rw [p2, za_up_n _ _ (Ne.symm hab)] at this
    unfold zh0 at this
    rw [za_up_s] at this
    cases this
  have hal : a ∉ [l5, l4, l3, l2, l1, l0] := fun y => by
    rw [← M1] at y
    obtain ⟨p, p1, p2⟩ := List.mem_map.mp y
    exact (n2 p p1).1 p2
  have b1 : h1 b = some (.inl (.int, n, .inl f)) := by
    rw [n3 b (Ne.symm hab) hbl, za_up_n _ _ (Ne.symm hab)]
    exact za_up_s _ _ _
  have L1 : ∀ x, x ∈ [l5, l4, l3, l2, l1, l0] → h1 x = some (ze_L G) ∧ x ≠ G.t := fun x hx => by
    have hx2 := hx
    rw [← M1] at hx2
    obtain ⟨p, p1, p2⟩ := List.mem_map.mp hx2
    obtain ⟨q1, q2, q3, q4⟩ := n2 p p1
    have e : p.2 = ze_L G := by
      simp only [List.mem_cons, List.not_mem_nil, or_false] at p1
      rcases p1 with y | y | y | y | y | y <;> rw [y]
    rw [← p2]
    exact ⟨by rw [q4, e], q2⟩
  have t1 : h1 G.t = none := by
    rw [n3 _ (Ne.symm hna.2) (fun y => (L1 _ y).2 rfl), za_up_n _ _ (Ne.symm hna.2)]
    unfold zh0
    rw [za_up_n _ _ (Ne.symm hb)]
  have m1 : ∀ x e, h1 x = some e → x ≠ o1 := fun x e h z => by rw [z, hn1.1] at h; cases h
  have k1 : ∀ x e, h1 x = some e → za_up h1 o1 (.inl (.int, 48, .inl (fun _ => 0))) x = some e := fun x e h => by rw [za_up_n _ _ (m1 x e h)]; exact h
  have k1o : za_up h1 o1 (.inl (.int, 48, .inl (fun _ => 0))) o1 = some (.inl (.int, 48, .inl (fun _ => 0))) := za_up_s _ _ _
  have k1t : za_up h1 o1 (.inl (.int, 48, .inl (fun _ => 0))) G.t = none := by rw [za_up_n _ _ (Ne.symm hn1.2)]; exact t1
  generalize za_up h1 o1 (.inl (.int, 48, .inl (fun _ => 0))) = h2 at *
  have m2 : ∀ x e, h2 x = some e → x ≠ o2 := fun x e h z => by rw [z, hn2.1] at h; cases h
  have k2 : ∀ x e, h2 x = some e → za_up h2 o2 (.inl (.int, 2, .inl (fun _ => 0))) x = some e := fun x e h => by rw [za_up_n _ _ (m2 x e h)]; exact h
  have k2o : za_up h2 o2 (.inl (.int, 2, .inl (fun _ => 0))) o2 = some (.inl (.int, 2, .inl (fun _ => 0))) := za_up_s _ _ _
  have k2t : za_up h2 o2 (.inl (.int, 2, .inl (fun _ => 0))) G.t = none := by rw [za_up_n _ _ (Ne.symm hn2.2)]; exact k1t
  generalize za_up h2 o2 (.inl (.int, 2, .inl (fun _ => 0))) = h3 at *
  have m3 : ∀ x e, h3 x = some e → x ≠ o3 := fun x e h z => by rw [z, hn3.1] at h; cases h
  have k3 : ∀ x e, h3 x = some e → za_up h3 o3 (.inl (.int, 24, .inl (fun _ => 0))) x = some e := fun x e h => by rw [za_up_n _ _ (m3 x e h)]; exact h
  have k3o : za_up h3 o3 (.inl (.int, 24, .inl (fun _ => 0))) o3 = some (.inl (.int, 24, .inl (fun _ => 0))) := za_up_s _ _ _
  have k3t : za_up h3 o3 (.inl (.int, 24, .inl (fun _ => 0))) G.t = none := by rw [za_up_n _ _ (Ne.symm hn3.2)]; exact k2t
  generalize za_up h3 o3 (.inl (.int, 24, .inl (fun _ => 0))) = h4 at *
  have hd : [o3, o2, o1, l5, l4, l3, l2, l1, l0, a, b].Nodup := by
    have c0 : ([l5, l4, l3, l2, l1, l0] ++ [a, b]).Nodup := List.nodup_append.mpr ⟨n1, List.nodup_cons.mpr ⟨fun y => hab (List.mem_singleton.mp y), List.nodup_cons.mpr ⟨List.not_mem_nil, List.nodup_nil⟩⟩, fun x hx y hy z => by
      subst z
      simp only [List.mem_cons, List.not_mem_nil, or_false] at hy
      rcases hy with y | y
      · exact hal (by rw [← y]; exact hx)
      · exact hbl (by rw [← y]; exact hx)⟩
    have g0 : ∀ x, x ∈ [l5, l4, l3, l2, l1, l0, a, b] → ∃ e, h1 x = some e := fun x hx => by
      have hx : x ∈ [l5, l4, l3, l2, l1, l0] ++ [a, b] := hx
      rcases List.mem_append.mp hx with y | y
      · exact ⟨_, (L1 x y).1⟩
      · simp only [List.mem_cons, List.not_mem_nil, or_false] at y
        rcases y with y | y
        · rw [y]; exact ⟨_, f1⟩
        · rw [y]; exact ⟨_, b1⟩
    have g1 : ∀ x, x ∈ [o1, l5, l4, l3, l2, l1, l0, a, b] → ∃ e, h2 x = some e := fun x hx => by
      rcases List.mem_cons.mp hx with y | y
      · rw [y]; exact ⟨_, k1o⟩
      · obtain ⟨e, he⟩ := g0 x y
        exact ⟨e, k1 x e he⟩
    have g2 : ∀ x, x ∈ [o2, o1, l5, l4, l3, l2, l1, l0, a, b] → ∃ e, h3 x = some e := fun x hx => by
      rcases List.mem_cons.mp hx with y | y
      · rw [y]; exact ⟨_, k2o⟩
      · obtain ⟨e, he⟩ := g1 x y
        exact ⟨e, k2 x e he⟩
    refine List.nodup_cons.mpr ⟨fun y => ?_, List.nodup_cons.mpr ⟨fun y => ?_, List.nodup_cons.mpr ⟨fun y => ?_, c0⟩⟩⟩
    · obtain ⟨e, he⟩ := g2 o3 y
      exact m3 o3 e he rfl
    · obtain ⟨e, he⟩ := g1 o2 y
      exact m2 o2 e he rfl
    · obtain ⟨e, he⟩ := g0 o1 y
      exact m1 o1 e he rfl
  have kk : ∀ x e, h1 x = some e → h4 x = some e := fun x e h => k3 x e (k2 x e (k1 x e h))
  have hh : ∀ p ∈ yl0 a o1 o2 o3 b (zl6 l0 l1 l2 l3 l4 l5), h4 p.2 = some (zcon (zB0 G.t (zl6 l0 l1 l2 l3 l4 l5) n) zS0 (zT1 f) p.1) := by
    intro p hp
    simp only [yl0, List.mem_cons, List.not_mem_nil, or_false] at hp
    rcases hp with y | y | y | y | y | y | y | y | y | y | y <;> rw [y]
    · exact k3o
    · exact k3 o2 _ k2o
    · exact k3 o1 _ (k2 o1 _ k1o)
    · exact kk l5 _ (L1 l5 (by simp)).1
    · exact kk l4 _ (L1 l4 (by simp)).1
    · exact kk l3 _ (L1 l3 (by simp)).1
    · exact kk l2 _ (L1 l2 (by simp)).1
    · exact kk l1 _ (L1 l1 (by simp)).1
    · exact kk l0 _ (L1 l0 (by simp)).1
    · exact kk a _ f1
    · exact kk b _ b1
  obtain ⟨A, r0, e, I, M, c1, c2, c3, c4, c5⟩ := yI_init (G := G) (T := zT1 f) (n := n) k3t (l := zl6 l0 l1 l2 l3 l4 l5) hd hh
  exact ⟨A, _, r0, e, I, M, ⟨c1, c2, c3, c4, c5⟩, rfl⟩
theorem y_app (F : za_F G) (I : zI G A B S r0) (e0 : A.1 (0, 0, 0) = x0) {x : Nat} (hx : x < 4) (h12 : S 12 0 0 < 6) (K : za_O → za_H → Prop) (q : ∀ A' B' r0', zX A B A' B' → zI G A' B' (zapp S x) r0' → K (.inl (some (.int (nI (S 12 0 0))))) (zmk A' B' (zapp S x) T r0')) : za_P G mX7_app [.ref x0, .int (nI x)] (zmk A B S T r0) 5 40 K := by
  rw [← e0]
  refine t_app F I (by omega) _ K (fun z => absurd (y_rg hx (by omega)) z) (fun _ z => absurd z (by omega)) (fun m h1 h2 _ => ?_)
  rw [← y_ne (by omega) (by omega) h2]
  exact q
end YLM
