/-! THE BEGINNING (3): what lies there takes its roles -/
section ZSM
variable {G : za_G} {B : zB} {S : zS} {T : zT}
theorem p_all {h : za_H} : ∀ (l : List (zQ × Nat)), (l.map (fun p => p.1)).Nodup → (l.map (fun p => p.2)).Nodup → (∀ p ∈ l, h p.2 = some (zcon B S T p.1)) → ∃ A r0, h = zmk A B S T r0 ∧ zF A ∧ (∀ p ∈ l, A.1 p.1 = p.2 ∧ zV A p.1) ∧ (∀ a, a ∉ l.map (fun p => p.2) → A.2 a = none ∧ r0 a = h a) ∧ ∀ r, r ∉ l.map (fun p => p.1) → ¬ zV A r
  | [], _, _, _ => ⟨(fun _ => 0, fun _ => none), h, rfl, fun q r y => (by cases y), fun p hp => absurd hp List.not_mem_nil, fun a _ => ⟨rfl, rfl⟩, fun r _ y => (by cases y)⟩
  | (r, q) :: l, n1, n2, hh => by
    rw [List.map_cons, List.nodup_cons] at n1 n2
    obtain ⟨A, r0, e1, e2, e3, e4, e5⟩ := p_all l n1.2 n2.2 (fun p hp => hh p (List.mem_cons_of_mem _ hp))
    obtain ⟨m1, m2⟩ := e4 q n2.1
    refine ⟨zad A r q, zr0 A r (zcon B S T r) r0, ?_, zad_F e2 _ _, fun p hp => ?_, fun a ha => ?_, fun r' hr' => ?_⟩
    · refine e1.trans (zmk_ad m1 ?_ (fun _ _ => rfl))
      rw [m2]
      exact hh (r, q) List.mem_cons_self
    · rcases List.mem_cons.mp hp with y | y
      · rw [y]; exact ⟨zad_s _ _ _, zad_V _ _ _⟩
      · have hn : p.1 ≠ r := fun z => n1.1 (by rw [← z]; exact List.mem_map.mpr ⟨p, y, rfl⟩)
        obtain ⟨k1, k2⟩ := e3 p y
        exact ⟨(zad_n _ _ hn).trans k1, (zad_Vn m1 hn).mpr k2⟩
    · rw [List.map_cons, List.mem_cons, not_or] at ha
      obtain ⟨k1, k2⟩ := e4 a ha.2
      exact ⟨zad_no k1 ha.1, (zr0_no k1).trans k2⟩
    · rw [List.map_cons, List.mem_cons, not_or] at hr'
      exact fun y => e5 r' hr'.2 ((zad_Vn m1 hr'.1).mp y)
/-- all is nought -/
def zS0 : zS := fun _ _ _ => 0
end ZSM
