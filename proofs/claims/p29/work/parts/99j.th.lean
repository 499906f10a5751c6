/-! THE CLAIM (1): what is known at the start -/
section ZTH
variable {s : State} {b : Nat} {scr : Cell} {args : Array Value}
def zA0 (s : State) (b : Nat) : Nat → Prop := fun q => s.heap.size ≤ q ∨ q = b
theorem zst_v {cell : Cell} (h : cell.vm.isStatics = true) : ∃ k, cell.vm = .statics k := by
  cases hv : cell.vm with
  | statics k => exact ⟨k, rfl⟩
  | _ => rw [hv] at h; cases h
theorem zw_Z {C n d : String} {v : Value} (h : va_Z C n d v (fun q => s.heap.size ≤ q) s s.heap) (h1 : s.heap[b]? = some scr) (h2 : ∀ k, scr.vm ≠ .statics k) : va_Z C n d v (zA0 s b) s s.heap := by
  obtain ⟨cf, kf, fi, f, a, cell, g1, g2, g3, g4, g5, g6, g7, g8⟩ := h
  refine ⟨cf, kf, fi, f, a, cell, g1, g2, g3, g4, g5, g6, g7, fun y => y.elim g8 (fun z => ?_)⟩
  subst z
  cases g5.symm.trans h1
  obtain ⟨k, hk⟩ := zst_v g6
  exact h2 k hk
theorem zw_Zq {C n d : String} (h : va_Zq C n d (fun q => s.heap.size ≤ q) s s.heap) (h1 : s.heap[b]? = some scr) (h2 : ∀ k, scr.vm ≠ .statics k) : va_Zq C n d (zA0 s b) s s.heap := by
  rcases h with h | ⟨t, h⟩
  · exact Or.inl (zw_Z h h1 h2)
  · exact Or.inr ⟨t, zw_Z h h1 h2⟩
theorem zw_L {C n d : String} (hl : (Cond.laysStatic C n d).before args s = true) (h1 : s.heap[b]? = some scr) (h2 : ∀ k, scr.vm ≠ .statics k) : vx_L C n d (zA0 s b) s s.heap := by
  obtain ⟨c, k, i, f, a, cell, hc, hi, hst, ha, hcell, hs, hcls, hlt, hty⟩ := Cond.laysStatic_spec hl
  refine ⟨c, k, i, f, a, cell, hc, hi, hst, ha, hcell, hs, hcls, hlt, hty, fun y => y.elim (fun z => ?_) (fun z => ?_)⟩
  · have := (Array.getElem?_eq_some_iff.mp hcell).1
    omega
  · subst z
    cases hcell.symm.trans h1
    obtain ⟨k, hk⟩ := zst_v hs
    exact h2 k hk
theorem zw_T {t : Nat} {f : Nat → Value} (h : va_T (.object "java/lang/Object") t 0 f (fun q => s.heap.size ≤ q) s s.heap) (h1 : s.heap[b]? = some scr) (h3 : s.isArrayOf scr .int) : va_T (.object "java/lang/Object") t 0 f (zA0 s b) s s.heap ∧ b ≠ t := by
  obtain ⟨cell, g1, g2, g3, g4, g5, g6, g7⟩ := h
  have hne : t ≠ b := fun z => by
    subst z
    cases g1.symm.trans h1
    obtain ⟨-, k, hk, comp, hc⟩ := g2
    obtain ⟨-, k', hk', comp', hc'⟩ := h3
    cases hk.symm.trans hk'
    rw [hc] at hc'
    cases hc'
  exact ⟨⟨cell, g1, g2, g3, g4, g5, g6, fun y => y.elim g7 hne⟩, Ne.symm hne⟩
theorem zK_start (hts : ∀ w ∈ lw_tbl, w.before args s = true) : ∃ D, va_K D vwCl [] s := by
  have k : ∀ (c : Nat) (C : String) (T : u_T) (N : Nat), vwCl[c]? = some (C, T, N) → (∀ w ∈ u_ws C T N, w ∈ lw_tbl) → Cond.instantiable C N ∈ lw_tbl → ∃ (cC : ClassId) (iS : Nat → Nat), ∀ q, vwCl[c]? = some q → u_Kn s q.1 q.2.1 q.2.2 cC iS := fun c C T N e h1 h2 => by
    obtain ⟨cC, iS, h⟩ := u_known hts h1 (hts _ h2)
    refine ⟨cC, iS, fun q hq => ?_⟩
    cases e.symm.trans hq
    exact h
  have h : ∀ c : Nat, ∃ (cC : ClassId) (iS : Nat → Nat), ∀ q : vw_C, vwCl[c]? = some q → u_Kn s q.1 q.2.1 q.2.2 cC iS := fun c => by
    match c with
    | 0 => exact k 0 _ _ _ rfl uwJx4a65c (by decide +kernel)
    | 1 => exact k 1 _ _ _ rfl uwX0 (by decide +kernel)
    | 2 => exact k 2 _ _ _ rfl uwX3 (by decide +kernel)
    | 3 => exact k 3 _ _ _ rfl uwX4 (by decide +kernel)
    | 4 => exact k 4 _ _ _ rfl uwX7 (by decide +kernel)
    | c + 5 => exact ⟨0, fun _ => 0, fun q hq => by
        rw [List.getElem?_eq_none (show vwCl.length ≤ c + 5 from Nat.le_add_left 5 c)] at hq
        cases hq⟩
  exact ⟨(fun c => Classical.choose (h c), fun c => Classical.choose (Classical.choose_spec (h c))), fun c q hq => Classical.choose_spec (Classical.choose_spec (h c)) q hq, fun k q hq => by cases hq⟩
def zstrw (w : Jvm.Cond) : Bool := match w with
  | .stringRef o k _ => !(o == RX7 || o == RX3) || decide (Jvm.Cond.exactly (.string o k) "java/lang/String" ∈ flatC (Jvm.Cond.and given_1 narrow_1))
  | _ => true
theorem zstrw_all : lw_tbl.all zstrw = true := by decide +kernel
theorem zF_start (l : Launch) (hflags : l.flags = flags0) {L : Nat} {xs : Nat → Int32} (hts : ∀ w ∈ lw_tbl, w.before args s = true) (hX : va_X b L xs s s.heap) (hgv : (Jvm.Cond.and given_1 narrow_1).before args s = true) : ∃ D t mi, za_F (l, s, D, t, mi, b) ∧ b ≠ t := by
  obtain ⟨scr, h1, h3, hk, hz, hv⟩ := hX
  have hs := flat_of_before _ hgv
  have hA : ∀ a, a < s.heap.size → ¬ s.heap.size ≤ a := fun a h => Nat.not_le.mpr h
  obtain ⟨t, ht, hT⟩ := va_Tof (tm := .static "java/util/ArrayList" "DEFAULTCAPACITY_EMPTY_ELEMENTDATA" "[Ljava/lang/Object;") (ty := .object "java/lang/Object") (N := 0) (f := fun _ => .null) (A := fun q => s.heap.size ≤ q) (by decide) (hs _ (by decide +kernel)) (va_eqt (hs _ (by decide +kernel))) (fun j hj => absurd hj (Nat.not_lt_zero j)) hA
  obtain ⟨mi, hMi⟩ := va_Mi.of (C := "[Ljava/lang/Object;") (hs _ (by decide +kernel))
  obtain ⟨D, hD⟩ := zK_start hts
  obtain ⟨hT2, hbt⟩ := zw_T hT h1 h3
  have hstr : ∀ own, own = RX7 ∨ own = RX3 → ∀ k tx, Jvm.Cond.stringRef own k tx ∈ lw_tbl → ∃ sa, vk_R own k tx sa s := fun own ho k tx h => by
    have e := List.all_eq_true.mp zstrw_all _ h
    have hm : Jvm.Cond.exactly (.string own k) "java/lang/String" ∈ flatC (Jvm.Cond.and given_1 narrow_1) := by
      rcases ho with rfl | rfl
      · simp only [zstrw, beq_self_eq_true, Bool.true_or, Bool.not_true, Bool.false_or] at e
        exact of_decide_eq_true e
      · simp only [zstrw, beq_self_eq_true, Bool.or_true, Bool.not_true, Bool.false_or] at e
        exact of_decide_eq_true e
    obtain ⟨a, c, cell, k', ha, -⟩ := Cond.exactly_spec (hs _ hm)
    exact ⟨a, vk_R.of (hts _ h) ha⟩
  refine ⟨D, t, mi, ⟨?_, ⟨args, hts⟩, hD, zw_Z (va_Zof (hts _ (by decide +kernel)) (hts _ (by decide +kernel)) ht hA) h1 h3.1, hT2, ⟨zw_Zq (va_Zqof (hts _ (by decide +kernel)) (hts _ (by decide +kernel)) (hs _ (by decide +kernel)) hA) h1 h3.1, zw_L (hts _ (by decide +kernel)) h1 h3.1⟩, ⟨zw_Zq (va_Zqof (hts _ (by decide +kernel)) (hts _ (by decide +kernel)) (hs _ (by decide +kernel)) hA) h1 h3.1, zw_L (hts _ (by decide +kernel)) h1 h3.1⟩, hstr RX7 (Or.inl rfl), hstr RX3 (Or.inr rfl), hMi, trivial⟩, hbt⟩
  show (!l.flags.contains noTraceFlag) = false
  rw [hflags]
  decide +kernel
end ZTH
