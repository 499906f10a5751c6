/-! THE CLAIM (2): the law's contract -/
section ZTI
variable {G : za_G}
def mL_law9 : za_M := (yL_law, cL_law, 7, some .boolean, [], 11)
theorem m_law (F : za_F G) {b n : Nat} {f : Nat → Int32} (hb : b ≠ G.t) (hn : n ≤ 4096) : za_P G mL_law9 [.ref b] (zh0 b n f) 601024 7293033 (fun o h => o = .inl (some (.int (nI 1))) ∧ h b = some (.inl (.int, n, .inl f))) := by
  refine za_mX (y := yL_law) (cc := cL_law) (nL := 7) (ret := some .boolean) (hh := []) (fr := 11) (lk := lkL) (hx := []) (ini := false) (cuts := fun p => p == 23 || p == 1889) F okL trivial (by decide +kernel) (by decide +kernel) (Nat.le_of_ble_eq_true rfl) (by simp [Value.category]) (fun R X hw => ?_)
  refine o_start F hw hb (Nat.le_of_ble_eq_true rfl) (Nat.le_of_ble_eq_true rfl) (fun A B T r0 c s u v hc hs L e => ?_)
  have e0 := zpot_0
  refine o_loop F hw (za_f_ok X okL trivial (fun z => by cases z)) hn (fun A B S T r0 L e => ⟨rfl, ?_⟩) 512 A B zS0 T r0 0 c s u v L e (by omega) (by omega) (by omega) (by omega) (by omega)
  rw [← e]
  exact zlI L
theorem zroom {s : State} {pl : Platform} {r r' : Jvm.Room} (h : s.hasRoom pl r = true) (h1 : r'.frames ≤ r.frames) (h2 : r'.cells ≤ r.cells) (h3 : r'.slots ≤ r.slots) (h4 : r'.locals ≤ r.locals) : s.hasRoom pl r' = true := by
  simp only [State.hasRoom, Bool.and_eq_true, decide_eq_true_eq] at h ⊢
  obtain ⟨⟨⟨⟨a1, a2, a3, a4, a5, a6⟩, a7⟩, a8⟩, a9⟩ := h
  exact ⟨⟨⟨⟨by omega, by omega, by omega, by omega, by omega, a6⟩, by omega⟩, by omega⟩, a9⟩
end ZTI
