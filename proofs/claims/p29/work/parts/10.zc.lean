/-! THE PLAIN LAYER (3): rows that touch the heap -/
section ZC
variable {C : za_C} {pc : Nat} {ls : za_L} {st : List Value} {h : za_H} {cells slots : Nat}
theorem za_al (X : za_X C) : C.G.s.vm.Alike C.s.vm := X.2.2.2.2.2.1.1.alike
theorem za_wd (X : za_X C) {w : Cond} (hw : w ∈ lw_tbl) (hg : goodWord w = true) : w.before C.args C.s = true := za_word X.2.2.2.2.2.2.1 X.2.2.2.2.2.1.1 hw hg _
theorem za_kK (X : za_X C) : va_K C.G.D vwCl [] C.s := va_K.moved (za_al X) X.2.2.2.2.2.2.1.2.2.1
theorem za_arr (X : za_X C) {H : Heap} (hR : za_R C.G h H) {a : Nat} {x : FieldType × vp_A} (ha : h a = some (.inl x)) (hn : x.1 ≠ .int) : ∃ cA, ArrOfT C.s cA x.1 ∧ va_RA C.s cA x.1 ∧ H[a]? = some (vp_cell cA x.2) := by
  obtain ⟨cA, h1, h2, h3⟩ := za_cyn (hR a _ ha).2 hn
  exact ⟨cA, arrOfT_moved (za_al X) h1, h2.moved (za_al X), h3⟩
theorem za_arri (X : za_X C) {H : Heap} (hR : za_R C.G h H) {a n : Nat} {f : Nat → Int32} (ha : h a = some (.inl (.int, n, .inl f))) : ∃ cell : Cell, H[a]? = some cell ∧ C.s.isArrayOf cell .int ∧ cell.vm ≠ .unknown ∧ cell.slots = (arrV 0 n (fun j => .int (f j))).slots := by
  obtain ⟨cell, h1, h2, h3⟩ := za_cyi (hR a _ ha).2
  exact ⟨cell, h1, State.isArrayOf_alike (za_al X) h2, h3⟩
theorem za_nlt {i : Int32} {n : Nat} (hin : vp_in i n) : i.toNatClampNeg < n := Nat.not_le.mp fun q => hin (Or.inr q)
theorem za_iald (X : za_X C) {a n : Nat} {f : Nat → Int32} {i : Int32} (d : decode C.M.cc pc = .ok (.iaload, 1)) (ha : h a = some (.inl (.int, n, .inl f))) (hin : vp_in i n) (k : za_w C (pc + 1) ls (.int (f i.toNatClampNeg) :: st) h cells slots) : za_w C pc ls (.int i :: .ref a :: st) h cells slots := fun H locs L hR hK hl hL => by
  obtain ⟨cell, h1, h2, h3, h4⟩ := za_arri X hR ha
  exact W.iald (v := .int (f i.toNatClampNeg)) X.1 X.2.1 h1 h2 h3 (by rw [h4, arrV_size]; exact hin) (by rw [h4, arrV_read _ _ (za_nlt hin)]) rfl rfl d (k H locs L hR hK hl hL)
theorem za_zald (X : za_X C) {a n : Nat} {f : Nat → Int32} {i : Int32} (d : decode C.M.cc pc = .ok (.baload, 1)) (ha : h a = some (.inl (.boolean, n, .inl f))) (hin : vp_in i n) (k : za_w C (pc + 1) ls (.int (f i.toNatClampNeg) :: st) h cells slots) : za_w C pc ls (.int i :: .ref a :: st) h cells slots := fun H locs L hR hK hl hL => by
  obtain ⟨cA, h1, h2, h3⟩ := za_arr X hR ha (fun q => by cases q)
  exact W.zald (v := .int (f i.toNatClampNeg)) X.1 X.2.1 h3 (h1 n (fun j => .int (f j))) (fun q => by cases q) (by show ¬ (i < 0 ∨ (arrV _ _ _).slots.size ≤ _); rw [arrV_size]; exact hin) (by show (arrV _ _ _).slots[_]? = _; rw [arrV_read _ _ (za_nlt hin)]) rfl rfl d (k H locs L hR hK hl hL)
theorem za_lald (X : za_X C) {a n : Nat} {f : Nat → Int64} {i : Int32} (d : decode C.M.cc pc = .ok (.laload, 1)) (ha : h a = some (.inl (.long, n, .inr (.inl f)))) (hin : vp_in i n) (k : za_w C (pc + 1) ls (.long (f i.toNatClampNeg) :: st) h cells slots) : za_w C pc ls (.int i :: .ref a :: st) h cells slots := fun H locs L hR hK hl hL => by
  obtain ⟨cA, h1, h2, h3⟩ := za_arr X hR ha (fun q => by cases q)
  exact W.lald (v := .long (f i.toNatClampNeg)) X.1 X.2.1 h3 (h1 n (fun j => .long (f j))) (fun q => by cases q) (by show ¬ (i < 0 ∨ (arrV _ _ _).slots.size ≤ _); rw [arrV_size]; exact hin) (by show (arrV _ _ _).slots[_]? = _; rw [arrV_read _ _ (za_nlt hin)]) rfl rfl d (k H locs L hR hK hl hL)
theorem za_aald (X : za_X C) {a n : Nat} {E : String} {f : Nat → Option Nat} {i : Int32} (d : decode C.M.cc pc = .ok (.aaload, 1)) (ha : h a = some (.inl (.object E, n, .inr (.inr (.inr (.inr f)))))) (hin : vp_in i n) (k : za_w C (pc + 1) ls (va_rf (f i.toNatClampNeg) :: st) h cells slots) : za_w C pc ls (.int i :: .ref a :: st) h cells slots := fun H locs L hR hK hl hL => by
  obtain ⟨cA, h1, h2, h3⟩ := za_arr X hR ha (fun q => by cases q)
  exact W.aald (v := va_rf (f i.toNatClampNeg)) (ty := .object E) X.1 X.2.1 h3 (h1 n (fun j => va_rf (f j))) rfl (fun q => by cases q) (by show ¬ (i < 0 ∨ (arrV _ _ _).slots.size ≤ _); rw [arrV_size]; exact hin) (by show (arrV _ _ _).slots[_]? = _; rw [arrV_read _ _ (za_nlt hin)]) rfl rfl d (k H locs L hR hK hl hL)
theorem za_locs {G : za_G} {locs : List Loc} {a i : Nat} (hl : ∀ z ∈ locs, za_A G z.base) (ha : za_A G a) : ∀ z ∈ locs ++ [(⟨a, i⟩ : Loc)], za_A G z.base := fun z hz => by
  rcases List.mem_append.mp hz with q | q
  · exact hl z q
  · rw [List.mem_singleton.mp q]; exact ha
theorem za_iast (X : za_X C) {a n : Nat} {f : Nat → Int32} {i x : Int32} (d : decode C.M.cc pc = .ok (.iastore, 1)) (ha : h a = some (.inl (.int, n, .inl f))) (hin : vp_in i n) (k : za_w C (pc + 1) ls st (za_up h a (.inl (.int, n, .inl (upd f i.toNatClampNeg x)))) cells slots) : za_w C pc ls (.int x :: .int i :: .ref a :: st) h cells slots := fun H locs L hR hK hl hL => by
  obtain ⟨cell, h1, h2, h3, h4⟩ := za_arri X hR ha
  obtain ⟨hA, hc⟩ := hR a _ ha
  obtain ⟨cell', g1, g2, g3, g4⟩ := za_cyi hc
  have ec : cell' = cell := Option.some.inj (g1.symm.trans h1)
  subst ec
  refine W.iast X.1 X.2.1 h1 h2 h3 (by rw [h4, arrV_size]; exact hin) rfl rfl d fun H1 e z oq => ?_
  refine k H1 _ L (hR.set ha (Or.inr ⟨n, _, rfl, _, e, g2, g3, ?_⟩) oq) (hK.set hA z oq) (za_locs hl hA) hL
  show cell'.slots.setIfInBounds _ _ = _
  rw [h4]
  have ea := congrArg Cell.slots (arrV_store 0 n i.toNatClampNeg (fun j => .int (f j)) (.int x))
  refine ea.trans ?_
  congr 2
  funext q
  by_cases hq : q = i.toNatClampNeg
  · subst hq; simp [updV, upd]
  · simp [updV, upd, hq]
theorem za_zast (X : za_X C) {a n : Nat} {f : Nat → Int32} {i x : Int32} (d : decode C.M.cc pc = .ok (.bastore, 1)) (ha : h a = some (.inl (.boolean, n, .inl f))) (hin : vp_in i n) (hx : x = 0 ∨ x = 1) (k : za_w C (pc + 1) ls st (za_up h a (.inl (.boolean, n, .inl (upd f i.toNatClampNeg x)))) cells slots) : za_w C pc ls (.int x :: .int i :: .ref a :: st) h cells slots := fun H locs L hR hK hl hL => by
  obtain ⟨cA, h1, h2, h3⟩ := za_arr X hR ha (fun q => by cases q)
  obtain ⟨hb, hc⟩ := hR a _ ha
  obtain ⟨cA', h1', h2', h3'⟩ := za_cyn hc (fun q => by cases q)
  have hA := hb
  have hnx : vp_nar .boolean x = x := by rcases hx with rfl | rfl <;> rfl
  refine W.zast X.1 X.2.1 h3 (h1 n (fun j => .int (f j))) (fun q => by cases q) (by show ¬ (i < 0 ∨ (arrV _ _ _).slots.size ≤ _); rw [arrV_size]; exact hin) rfl rfl d fun H1 e z oq => ?_
  refine k H1 _ L (hR.set ha (Or.inl ⟨cA', h1', h2', ?_⟩) oq) (hK.set hA z oq) (za_locs hl hA) hL
  have ec : vp_cell cA' (n, .inl f) = vp_cell cA (n, .inl f) := Option.some.inj (h3'.symm.trans h3)
  have ec2 : cA' = cA := congrArg Cell.cls ec
  show H1[a]? = some (vp_cell _ _)
  rw [e, ec2, vp_cell_i, vp_cell_i, arrV_store]
  congr 2
  funext q
  by_cases hq : q = i.toNatClampNeg
  · subst hq
    rcases hx with rfl | rfl <;> simp [updV, upd] <;> rfl
  · simp [updV, upd, hq]
theorem za_last (X : za_X C) {a n : Nat} {f : Nat → Int64} {i : Int32} {x : Int64} (d : decode C.M.cc pc = .ok (.lastore, 1)) (ha : h a = some (.inl (.long, n, .inr (.inl f)))) (hin : vp_in i n) (k : za_w C (pc + 1) ls st (za_up h a (.inl (.long, n, .inr (.inl (vp_updL f i.toNatClampNeg x))))) cells slots) : za_w C pc ls (.long x :: .int i :: .ref a :: st) h cells slots := fun H locs L hR hK hl hL => by
  obtain ⟨cA, h1, h2, h3⟩ := za_arr X hR ha (fun q => by cases q)
  obtain ⟨hb, hc⟩ := hR a _ ha
  obtain ⟨cA', h1', h2', h3'⟩ := za_cyn hc (fun q => by cases q)
  have hA := hb
  refine W.last X.1 X.2.1 h3 (h1 n (fun j => .long (f j))) (fun q => by cases q) (by show ¬ (i < 0 ∨ (arrV _ _ _).slots.size ≤ _); rw [arrV_size]; exact hin) rfl rfl d fun H1 e z oq => ?_
  refine k H1 _ L (hR.set ha (Or.inl ⟨cA', h1', h2', ?_⟩) oq) (hK.set hA z oq) (za_locs hl hA) hL
  have ec : vp_cell cA' (n, .inr (.inl f)) = vp_cell cA (n, .inr (.inl f)) := Option.some.inj (h3'.symm.trans h3)
  have ec2 : cA' = cA := congrArg Cell.cls ec
  show H1[a]? = some (vp_cell _ _)
  rw [e, ec2, vp_cell_l, vp_cell_l, arrV_store]
  congr 2
  funext q
  by_cases hq : q = i.toNatClampNeg
  · subst hq; simp [updV, vp_updL]
  · simp [updV, vp_updL, hq]
theorem za_aastN (X : za_X C) {a n : Nat} {E : String} {f : Nat → Option Nat} {i : Int32} (d : decode C.M.cc pc = .ok (.aastore, 1)) (ha : h a = some (.inl (.object E, n, .inr (.inr (.inr (.inr f)))))) (hin : vp_in i n) (k : za_w C (pc + 1) ls st (za_up h a (.inl (.object E, n, .inr (.inr (.inr (.inr (va_up f i.toNatClampNeg none))))))) cells slots) : za_w C pc ls (.null :: .int i :: .ref a :: st) h cells slots := fun H locs L hR hK hl hL => by
  obtain ⟨cA, h1, h2, h3⟩ := za_arr X hR ha (fun q => by cases q)
  obtain ⟨hb, hc⟩ := hR a _ ha
  obtain ⟨cA', h1', h2', h3'⟩ := za_cyn hc (fun q => by cases q)
  have hA := hb
  refine va_WaastN (C := E) X.1 X.2.1 h3 (h1 n (fun j => va_rf (f j))) (fun h => by cases h) (by show ¬ (i < 0 ∨ (arrV _ _ _).slots.size ≤ _); rw [arrV_size]; exact hin) rfl rfl d fun H1 e z oq => ?_
  refine k H1 _ L (hR.set ha (Or.inl ⟨cA', h1', h2', ?_⟩) oq) (hK.set hA z oq) (za_locs hl hA) hL
  have ec : vp_cell cA' (n, .inr (.inr (.inr (.inr f)))) = vp_cell cA (n, .inr (.inr (.inr (.inr f)))) := Option.some.inj (h3'.symm.trans h3)
  have ec2 : cA' = cA := congrArg Cell.cls ec
  show H1[a]? = some (vp_cell _ _)
  rw [e, ec2, vp_cell_q, vp_cell_q, arrV_store]
  congr 2
  funext q
  by_cases hq : q = i.toNatClampNeg
  · subst hq; simp [updV, va_up, va_rf]
  · simp [updV, va_up, hq]
theorem za_ob (X : za_X C) {H : Heap} (hR : za_R C.G h H) {a ci : Nat} {fs : List Value} (ha : h a = some (.inr (ci, fs))) : ∃ r : vw_C, vwCl[ci]? = some r ∧ t_OB a (C.G.D.1 ci) r.2.2 (C.G.D.2 ci) H (vp_V fs) ∧ ∃ cell : Cell, H[a]? = some cell ∧ cell.vm.isStatics = false ∧ C.s.vm.findClass r.1 = some cell.cls := by
  obtain ⟨-, r, h1, h2⟩ := hR a _ ha
  refine ⟨r, h1, h2, ?_⟩
  obtain ⟨cell, g1, g2, g3, -⟩ := h2
  exact ⟨cell, g1, by rw [g3]; rfl, by rw [g2]; exact ((za_kK X).1 ci r h1).2.1⟩
theorem za_cst (X : za_X C) {x y : String} (hca : Cond.castable x y ∈ lw_tbl) : (Cond.castable x y).before C.args C.s = true := by
  obtain ⟨A0, hA0⟩ := X.2.2.2.2.2.2.1.2.1
  exact va_Nw.use rfl (va_Nw.warmC X.2.2.2.2.2.1.1 (va_Nw.of rfl (hA0 _ hca)))
/-- a value of class ci is stored in a row of Objects -/
theorem za_aast (X : za_X C) {a n v ci : Nat} {fs : List Value} {r : vw_C} {f : Nat → Option Nat} {i : Int32} (d : decode C.M.cc pc = .ok (.aastore, 1)) (ha : h a = some (.inl (.object "java/lang/Object", n, .inr (.inr (.inr (.inr f)))))) (hv : h v = some (.inr (ci, fs))) (hr : vwCl[ci]? = some r) (hca : Cond.castable r.1 "java/lang/Object" ∈ lw_tbl) (hin : vp_in i n)
    (k : za_w C (pc + 1) ls st (za_up h a (.inl (.object "java/lang/Object", n, .inr (.inr (.inr (.inr (va_up f i.toNatClampNeg (some v)))))))) cells slots) : za_w C pc ls (.ref v :: .int i :: .ref a :: st) h cells slots := fun H locs L hR hK hl hL => by
  obtain ⟨cA, h1, h2, h3⟩ := za_arr X hR ha (fun q => by cases q)
  obtain ⟨hb, hc⟩ := hR a _ ha
  obtain ⟨cA', h1', h2', h3'⟩ := za_cyn hc (fun q => by cases q)
  have hA := hb
  have h0 : ¬ i < 0 := fun q => hin (Or.inl q)
  obtain ⟨r', hr', hob, cellV, g1, g2, g3⟩ := za_ob X hR hv
  cases hr.symm.trans hr'
  obtain ⟨cellW, q1, q2, q3, -⟩ := hob
  cases g1.symm.trans q1
  have hcls := ((za_kK X).1 ci r hr).2
  obtain ⟨kA, comp, k1, k2, k3, -⟩ := h2
  obtain ⟨kE, hkE, -⟩ := Vm.findClass_spec k3
  obtain ⟨c0, t1, f1, f2, f3⟩ := Cond.castable_spec (za_cst X hca)
  cases hcls.1.symm.trans f1
  cases k3.symm.trans f2
  obtain ⟨kC, hkC, -⟩ := hcls.2
  refine W.aast X.1 X.2.1 h3 (fun q h => by cases h) (fun h => by cases h) k1 k2 rfl hkE ⟨h0, by show _ < (arrV _ _ _).slots.size; rw [arrV_size]; exact za_nlt hin⟩ g1 (fun q h => by rw [q3] at h; cases h) (by rw [q2]; exact hkC) (by rw [q2]; exact f3) rfl rfl d fun H1 e z oq => ?_
  refine k H1 _ L (hR.set ha (Or.inl ⟨cA', h1', h2', ?_⟩) oq) (hK.set hA z oq) (za_locs hl hA) hL
  have ec : vp_cell cA' (n, .inr (.inr (.inr (.inr f)))) = vp_cell cA (n, .inr (.inr (.inr (.inr f)))) := Option.some.inj (h3'.symm.trans h3)
  have ec2 : cA' = cA := congrArg Cell.cls ec
  show H1[a]? = some (vp_cell _ _)
  rw [e, ec2, vp_cell_q, vp_cell_q, arrV_store]
  congr 2
  funext q
  by_cases hq : q = i.toNatClampNeg
  · subst hq; simp [updV, va_up, va_rf]
  · simp [updV, va_up, hq]
/-- a field's link: class ci, its k-th field, of type ty, final or not -/
def za_fl (own : String) (idx ci k : Nat) (ty : FieldType) (fin : Nat) : Prop :=
  ∃ (Cn : String) (T : u_T) (N : Nat) (ref : String) (ty0 : Nat → FieldType), vwCl[ci]? = some (Cn, T, N) ∧ k < N ∧ Cond.fieldLink own idx ref (T k).2.1 (T k).2.2.1 ∈ lw_tbl ∧ (ref = (T k).1 ∨ Cond.sameField ref (T k).1 (T k).2.1 (T k).2.2.1 ∈ lw_tbl) ∧
    (∀ w ∈ u_ws Cn T N, w ∈ lw_tbl) ∧ (∀ k, k < N → parseFieldDescriptor (T k).2.2.1 = some (ty0 k)) ∧ (∀ a, a < N → ∀ b, b < N → a ≠ b → (T a).2.1 ≠ (T b).2.1) ∧ ty0 k = ty ∧ (fin = 0 → (T k).2.2.2 = false) ∧ (fin = 1 → (T k).2.2.2 = true ∧ (T k).1 = own)
theorem za_lays (X : za_X C) {Cn : String} {T : u_T} {N : Nat} (hin : ∀ w ∈ u_ws Cn T N, w ∈ lw_tbl) {k : Nat} (hk : k < N) : (u_lay Cn T k).before C.args C.s = true := by
  refine za_wd X (hin _ (u_in_lay hk)) ?_
  unfold u_lay
  split <;> rfl
theorem za_lays2 (X : za_X C) {Cn : String} {T : u_T} {N : Nat} (hin : ∀ w ∈ u_ws Cn T N, w ∈ lw_tbl) {k : Nat} (hk : k < N) : (Cond.lays Cn (T k).1 (T k).2.1 (T k).2.2.1).before C.args C.s = true ∨ (Cond.laysFinal Cn (T k).1 (T k).2.1 (T k).2.2.1).before C.args C.s = true := by
  have h := za_lays X hin hk
  unfold u_lay at h
  split at h
  · exact Or.inr h
  · exact Or.inl h
theorem za_same (X : za_X C) {ref o n d : String} (h : ref = o ∨ Cond.sameField ref o n d ∈ lw_tbl) : ∀ x, C.s.fieldFound? o n d = some x → C.s.fieldFound? ref n d = some x := by
  rcases h with rfl | h
  · exact fun _ h => h
  · exact u_same (za_wd X h rfl)
theorem za_get (X : za_X C) {idx ci kk : Nat} {ty : FieldType} {fin : Nat} {a : Nat} {fs : List Value} {v : Value} (d : decode C.M.cc pc = .ok (.getfield idx, 3)) (hf : za_fl C.M.y.cls idx ci kk ty fin) (ha : h a = some (.inr (ci, fs))) (hv : fs[kk]? = some v) (k : za_w C (pc + 3) ls (v :: st) h cells slots) : za_w C pc ls (.ref a :: st) h cells slots := fun H locs L hR hK hl hL => by
  obtain ⟨Cn, T, N, ref, ty0, c1, c2, c3, c4, c5, c6, c7, c8, c9, c10⟩ := hf
  obtain ⟨r, h1, ⟨cell, q1, q2, q3, q4⟩, -⟩ := za_ob X hR ha
  cases c1.symm.trans h1
  obtain ⟨hS, hfc, kC, hkC, hkind⟩ := (za_kK X).1 ci _ c1
  obtain ⟨cf, kf, fi, f, hi, hsl⟩ := hS kk c2
  refine W.getf X.1 X.2.1 X.2.2.2.1 (za_wd X c3 rfl) (za_same X c4 _ hi) (u_facts hfc hkC (za_lays2 X c5 c2) hi).1 q1 (by rw [q3]; exact fun h => by cases h) (v := v) ?_ rfl rfl d (k H locs L hR hK hl hL)
  rw [hsl, q4 kk c2]
  simp [vp_V, hv]
def za_fit (ty : FieldType) (v : Value) : Prop := narrow ty v = v ∧ fits ty v = true
theorem za_apart (X : za_X C) {Cn : String} {T : u_T} {N ci : Nat} {ty0 : Nat → FieldType} (c1 : vwCl[ci]? = some (Cn, T, N)) (hin : ∀ w ∈ u_ws Cn T N, w ∈ lw_tbl) (hty : ∀ k, k < N → parseFieldDescriptor (T k).2.2.1 = some (ty0 k)) (hnm : ∀ a, a < N → ∀ b, b < N → a ≠ b → (T a).2.1 ≠ (T b).2.1) : ∀ x y, x < N → y < N → x ≠ y → (C.G.D.2 ci) x ≠ (C.G.D.2 ci) y := by
  intro x y hx hy hne
  obtain ⟨hS, -⟩ := (za_kK X).1 ci _ c1
  obtain ⟨_, _, _, fa, hia, ea⟩ := hS x hx
  obtain ⟨_, _, _, fb, hib, eb⟩ := hS y hy
  rw [← ea, ← eb]
  refine u_apart (za_lays2 X hin hx) (za_lays2 X hin hy) hia hib ?_
  rw [(State.fieldFound?_type hia (hty x hx)).1, (State.fieldFound?_type hib (hty y hy)).1]
  exact hnm x hx y hy hne
theorem za_put (X : za_X C) {idx ci kk : Nat} {ty : FieldType} {fin : Nat} {a : Nat} {fs : List Value} {v : Value} (d : decode C.M.cc pc = .ok (.putfield idx, 3)) (hf : za_fl C.M.y.cls idx ci kk ty fin) (hfin : fin = 0 ∨ (fin = 1 ∧ C.M.y.name = "<init>")) (ha : h a = some (.inr (ci, fs))) (hlt : kk < fs.length) (hv : za_fit ty v) (k : za_w C (pc + 3) ls st (za_up h a (.inr (ci, fs.set kk v))) cells slots) : za_w C pc ls (v :: .ref a :: st) h cells slots := fun H locs L hR hK hl hL => by
  obtain ⟨Cn, T, N, ref, ty0, c1, c2, c3, c4, c5, c6, c7, c8, c9, c10⟩ := hf
  have hap := za_apart X c1 c5 c6 c7
  have hA := (hR a _ ha).1
  obtain ⟨r, h1, ⟨cell, q1, q2, q3, q4⟩, -⟩ := za_ob X hR ha
  cases c1.symm.trans h1
  obtain ⟨hS, hfc, kC, hkC, hkind⟩ := (za_kK X).1 ci _ c1
  obtain ⟨cf, kf, fi, f, hi, hsl⟩ := hS kk c2
  have hst := (u_facts hfc hkC (za_lays2 X c5 c2) hi).1
  have hd : parseFieldDescriptor (T kk).2.2.1 = some ty := by rw [c6 kk c2, c8]
  have hlay := za_lays X c5 c2
  have fin' : ∀ (H1 : Heap), H1[a]? = some (cell.setSlot (C.G.D.2 ci kk) v) → H1.size = H.size → (∀ q : Nat, q ≠ a → H1[q]? = H[q]?) → za_R C.G (za_up h a (.inr (ci, fs.set kk v))) H1 := fun H1 e1 e2 e3 =>
    hR.set ha ⟨_, c1, t_OB.to (V := updV (vp_V fs) kk v) ⟨_, e1, q2, q3, t_set q4 hap c2 v⟩ (fun j _ => vp_updV_set hlt v j)⟩ e3
  rcases hfin with hb | ⟨hb, hin2⟩
  · unfold u_lay at hlay
    rw [if_neg (by rw [c9 hb]; decide)] at hlay
    have h6 := u_store hfc hkC hkind hlay hi hd hv.1 hv.2
    refine W.putK X.1 X.2.1 (f := f) ⟨X.2.2.2.1, za_wd X c3 rfl, ⟨_, _, _, za_same X c4 _ hi⟩, hst⟩ (by rw [q2]; exact h6) q1 q3 (by rw [hsl]; exact k2_hasslot (q4 kk c2)) rfl rfl d fun H' e1 e2 e3 => ?_
    rw [hsl] at e1 ⊢
    exact k H' _ L (fin' H' e1 e2 e3) (hK.set hA e2 e3) (za_locs hl hA) hL
  · unfold u_lay at hlay
    rw [if_pos (c10 hb).1] at hlay
    have hcf : C.m.cls = cf := by
      obtain ⟨_, _, c', _, _, _, -, -, hf', -, -, -, hown2, -⟩ := Cond.laysFinal_spec hlay
      have e1 : c' = cf := by have := hi.symm.trans hf'; simp at this; exact this.1.symm
      rw [(c10 hb).2] at hown2
      rw [← e1]; exact Option.some.inj (X.2.2.2.1.symm.trans hown2)
    have h6 := u_fits hfc hkC hkind (Or.inr hlay) hi hd hv.1 hv.2
    refine W.putFinK X.1 X.2.1 X.2.2.2.1 (za_wd X c3 rfl) (za_same X c4 _ hi) hst hcf (by rw [X.2.2.2.2.2.2.2.1]; exact hin2) (by rw [q2]; exact h6) q1 q3 (by rw [hsl]; exact k2_hasslot (q4 kk c2)) rfl rfl d fun H' e1 e2 e3 => ?_
    rw [hsl] at e1 ⊢
    exact k H' _ L (fin' H' e1 e2 e3) (hK.set hA e2 e3) (za_locs hl hA) hL
/-- a class's link for 'new': class ci, its fields' first values -/
def za_nl (own : String) (idx ci : Nat) (fs : List Value) : Prop :=
  ∃ (Cn : String) (T : u_T) (N : Nat) (ty0 : Nat → FieldType), vwCl[ci]? = some (Cn, T, N) ∧ Cond.classLink own idx Cn ∈ lw_tbl ∧ Cond.instantiable Cn N ∈ lw_tbl ∧ Cond.initialized Cn ∈ lw_tbl ∧
    (∀ w ∈ u_ws Cn T N, w ∈ lw_tbl) ∧ (∀ k, k < N → parseFieldDescriptor (T k).2.2.1 = some (ty0 k)) ∧ fs.length = N ∧ (∀ j, j < N → defaultValue (ty0 j) = vp_V fs j)
theorem za_tne (X : za_X C) {H : Heap} (hK : za_K C.G H) : H.size ≠ C.G.t := fun z => by
  obtain ⟨cell, h1, h2, h3, h4, h5, h6, h7⟩ := X.2.2.2.2.2.2.1.2.2.2.2.1
  have hlt : C.G.t < za_b C.G := Nat.lt_of_not_le fun y => h7 (Or.inl y)
  have := hK.1
  omega
theorem za_new (X : za_X C) {idx ci : Nat} {fs : List Value} (d : decode C.M.cc pc = .ok (.new idx, 3)) (hn : za_nl C.M.y.cls idx ci fs) (hc : cells + 1 ≤ C.mc) (hs : slots + fs.length ≤ C.ms) (k : ∀ q, za_nn C.G h q → za_w C (pc + 3) ls (.ref q :: st) (za_up h q (.inr (ci, fs))) (cells + 1) (slots + fs.length)) : za_w C pc ls st h cells slots := fun H locs L hR hK hl hL => by
  obtain ⟨Cn, T, N, ty0, c1, c2, c3, c4, c5, c6, c7, c8⟩ := hn
  subst c7
  obtain ⟨hS, hfc, kC0, hkC0, hkind⟩ := (za_kK X).1 ci _ c1
  refine W.newcK X.1 X.2.1 X.2.2.2.1 (za_wd X c2 rfl) (za_wd X c3 rfl) (za_wd X c4 rfl) rfl d hc hs hfc rfl fun H1 kC hkC e1 z1 o1 => ?_
  refine k H.size ⟨hR.new (Nat.le_refl _), za_tne X hK⟩ H1 locs L (hR.push hK ⟨_, c1, ?_⟩ o1) (hK.push (by omega) o1) hl hL
  have hts : ∀ w ∈ u_ws Cn T fs.length, w.before C.args C.s = true := fun w hw => by
    obtain ⟨j, hj, rfl⟩ := List.mem_map.mp hw
    exact za_lays X c5 (List.mem_range.mp hj)
  exact (u_born ty0 hts (fun _ h => h) ((za_kK X).1 ci _ c1) hkC e1 c6).to c8
/-- which rows are made: of ints, booleans, longs -/
def za_a0 (t : ArrayType) (n : Nat) : za_E := match t with
  | .int => .inl (.int, n, .inl (fun _ => 0))
  | .boolean => .inl (.boolean, n, .inl (fun _ => 0))
  | _ => .inl (.long, n, .inr (.inl (fun _ => 0)))
theorem za_newa (X : za_X C) {t : ArrayType} {n : Int32} (d : decode C.M.cc pc = .ok (.newarray t, 2)) (ht : t = .int) (hw : Cond.arrayClass (newarray.typeOf t) ∈ lw_tbl) (hn : ¬ n < 0) (hb : n.toNatClampNeg ≤ 1000000) (hc : cells + 1 ≤ C.mc) (hs : slots + n.toNatClampNeg ≤ C.ms) (k : ∀ q, za_nn C.G h q → za_w C (pc + 2) ls (.ref q :: st) (za_up h q (za_a0 t n.toNatClampNeg)) (cells + 1) (slots + n.toNatClampNeg)) : za_w C pc ls (.int n :: st) h cells slots := fun H locs L hR hK hl hL => by
  have hby : n.toNatClampNeg * componentBytes (newarray.typeOf t) ≤ 536870912 := by
    have : componentBytes (newarray.typeOf t) ≤ 8 := by rcases ht with rfl; decide
    calc n.toNatClampNeg * componentBytes (newarray.typeOf t) ≤ 1000000 * 8 := Nat.mul_le_mul hb this
      _ ≤ 536870912 := by decide
  refine va_newaK X.1 X.2.1 (za_wd X hw rfl) rfl d rfl hn rfl hby hc hs rfl fun H1 cA e1 z1 o1 hAr hNm => ?_
  refine k H.size ⟨hR.new (Nat.le_refl _), za_tne X hK⟩ H1 locs L (hR.push hK ?_ o1) (hK.push (by omega) o1) hl hL
  have hal := (za_al X).symm
  have hA2 := arrOfT_moved hal hAr
  have hN2 : va_RA C.s cA (newarray.typeOf t) := by rcases ht with rfl; exact hNm
  have hN3 := hN2.moved hal
  subst ht
  exact Or.inl ⟨cA, hA2, hN3, e1⟩
theorem za_newq (X : za_X C) {idx : Nat} {n : Int32} (d : decode C.M.cc pc = .ok (.anewarray idx, 3)) (hw : Cond.classLink C.M.y.cls idx "java/lang/Object" ∈ lw_tbl) (hw2 : Cond.arrayOver (.object "java/lang/Object") ∈ lw_tbl) (hn : ¬ n < 0) (hb : n.toNatClampNeg ≤ 1000000) (hc : cells + 1 ≤ C.mc) (hs : slots + n.toNatClampNeg ≤ C.ms) (k : ∀ q, za_nn C.G h q → za_w C (pc + 3) ls (.ref q :: st) (za_up h q (.inl (.object "java/lang/Object", n.toNatClampNeg, .inr (.inr (.inr (.inr (fun _ => none))))))) (cells + 1) (slots + n.toNatClampNeg)) : za_w C pc ls (.int n :: st) h cells slots := fun H locs L hR hK hl hL => by
  have hover : va_AO "java/lang/Object" C.s := by
    obtain ⟨A0, hA0⟩ := X.2.2.2.2.2.2.1.2.1
    exact va_AO.moved (za_al X) (va_AO.of (hA0 _ hw2))
  refine W.anew X.1 X.2.1 X.2.2.2.1 (za_wd X hw rfl) (va_AO.use hover) rfl d rfl hn (by omega) hc hs fun cA kA comp f1 f2 f3 f4 => ?_
  generalize hH1 : H.push ({ cls := cA, slots := Array.replicate n.toNatClampNeg .null, vm := .none } : Cell) = H1
  have z1 : H1.size = H.size + 1 := by rw [← hH1, Array.size_push]
  have e1 : H1[H.size]? = some (arrV cA n.toNatClampNeg (fun _ => .null)) := by rw [← hH1, Array.getElem?_push_size, ← arrV_new]
  have o1 : ∀ q : Nat, q < H.size → H1[q]? = H[q]? := fun q hq => by rw [← hH1, Array.getElem?_push, if_neg (Nat.ne_of_lt hq)]
  have hAr : ArrOfT C.s cA (.object "java/lang/Object") := fun N z => ⟨(fun k h => by cases h), kA, f2, comp, f3⟩
  have hRA : va_RA C.s cA (.object "java/lang/Object") := ⟨kA, comp, f2, f3, f4, f1⟩
  have hal := (za_al X).symm
  exact k H.size ⟨hR.new (Nat.le_refl _), za_tne X hK⟩ H1 locs L (hR.push hK (Or.inl ⟨cA, arrOfT_moved hal hAr, hRA.moved hal, e1⟩) o1) (hK.push (by omega) o1) hl hL
theorem za_alen (X : za_X C) {a : Nat} {x : FieldType × vp_A} (d : decode C.M.cc pc = .ok (.arraylength, 1)) (ha : h a = some (.inl x)) (k : za_w C (pc + 1) ls (.int (nI x.2.1) :: st) h cells slots) : za_w C pc ls (.ref a :: st) h cells slots := fun H locs L hR hK hl hL => by
  have k1 := k H locs L hR hK hl hL
  rcases (hR a _ ha).2 with ⟨cA, g1, g2, h3⟩ | ⟨n, f, e, cell, g1, g2, g3, g4⟩
  rotate_left
  · subst e
    exact W.alen (n := Int32.ofNat n) X.1 X.2.1 g1 (State.isArrayOf_alike (za_al X) g2) (by rw [g4, arrV_size] <;> rfl) rfl rfl d k1
  have h1 := arrOfT_moved (za_al X) g1
  obtain ⟨ty, n, f | f | f | f | f⟩ := x
  · exact W.alen (n := Int32.ofNat n) X.1 X.2.1 h3 (h1 n (fun j => .int (f j))) (by rw [vp_cell_i, arrV_size] <;> rfl) rfl rfl d k1
  · exact W.alen (n := Int32.ofNat n) X.1 X.2.1 h3 (h1 n (fun j => .long (f j))) (by rw [vp_cell_l, arrV_size] <;> rfl) rfl rfl d k1
  · exact W.alen (n := Int32.ofNat n) X.1 X.2.1 h3 (h1 n (fun j => .float (f j))) (by rw [vp_cell_f, arrV_size] <;> rfl) rfl rfl d k1
  · exact W.alen (n := Int32.ofNat n) X.1 X.2.1 h3 (h1 n (fun j => .double (f j))) (by rw [vp_cell_d, arrV_size] <;> rfl) rfl rfl d k1
  · exact W.alen (n := Int32.ofNat n) X.1 X.2.1 h3 (h1 n (fun j => va_rf (f j))) (by rw [vp_cell_q, arrV_size] <;> rfl) rfl rfl d k1
/-- the length of the list's empty row -/
theorem za_alenT (X : za_X C) (d : decode C.M.cc pc = .ok (.arraylength, 1)) (k : za_w C (pc + 1) ls (.int 0 :: st) h cells slots) : za_w C pc ls (.ref C.G.t :: st) h cells slots := fun H locs L hR hK hl hL => by
  obtain ⟨cell, h1, h2, h3, h4, h5, h6, h7⟩ := X.2.2.2.2.2.2.1.2.2.2.2.1
  have h8 : H[C.G.t]? = some cell := by rw [hK.2 _ h7]; exact h1
  exact W.alen (n := 0) X.1 X.2.1 h8 (State.isArrayOf_alike (za_al X) h2) h5 rfl rfl d (k H locs L hR hK hl hL)
/-- the static that holds the list's empty row -/
theorem za_getT (X : za_X C) {idx : Nat} (d : decode C.M.cc pc = .ok (.getstatic idx, 3)) (hw : Cond.fieldLink C.M.y.cls idx "java/util/ArrayList" "DEFAULTCAPACITY_EMPTY_ELEMENTDATA" "[Ljava/lang/Object;" ∈ lw_tbl) (k : za_w C (pc + 3) ls (.ref C.G.t :: st) h cells slots) : za_w C pc ls st h cells slots := fun H locs L hR hK hl hL => by
  have hZ := va_Z.moved (za_al X) X.2.2.2.2.2.2.1.2.2.2.1
  obtain ⟨cf, kf, fi, f, a, cell, h1, h2, h3, h4, h5, h6, h7, h8⟩ := hZ
  exact W.gets X.1 X.2.1 X.2.2.2.1 (za_wd X hw rfl) h1 h2 h3 h4 (by rw [hK.2 a h8]; exact h5) (fun e => by rw [e] at h6; cases h6) h7 rfl d (k H locs L hR hK hl hL)
/-- a number out of the pool -/
theorem za_ldc (X : za_X C) {idx : Nat} {v : Int32} (d : decode C.M.cc pc = .ok (.ldc idx, 2)) (hw : Cond.constant C.M.y.cls idx v ∈ lw_tbl) (k : za_w C (pc + 2) ls (.int v :: st) h cells slots) : za_w C pc ls st h cells slots := fun H locs L hR hK hl hL => lv_ldc X.1 X.2.1 X.2.2.2.1 (za_wd X hw rfl) d (k H locs L hR hK hl hL)
/-- the class object of Object rows -/
theorem za_ldcM (X : za_X C) {idx : Nat} (d : decode C.M.cc pc = .ok (.ldc idx, 2)) (hw : Cond.classLink C.M.y.cls idx "[Ljava/lang/Object;" ∈ lw_tbl) (k : za_w C (pc + 2) ls (.ref C.G.mi :: st) h cells slots) : za_w C pc ls st h cells slots := fun H locs L hR hK hl hL => va_ldcM X.1 X.2.1 X.2.2.2.1 (za_wd X hw rfl) (va_Mi.moved (za_al X) X.2.2.2.2.2.2.1.2.2.2.2.2.2.2.2.2.1) d (k H locs L hR hK hl hL)
/-- a cast of an object to its own class -/
theorem za_cast (X : za_X C) {idx ci a : Nat} {fs : List Value} {r : vw_C} (d : decode C.M.cc pc = .ok (.checkcast idx, 3)) (ha : h a = some (.inr (ci, fs))) (hr : vwCl[ci]? = some r) (hw : Cond.classLink C.M.y.cls idx r.1 ∈ lw_tbl) (k : za_w C (pc + 3) ls (.ref a :: st) h cells slots) : za_w C pc ls (.ref a :: st) h cells slots := fun H locs L hR hK hl hL => by
  obtain ⟨r', h1, -, h2⟩ := za_ob X hR ha
  cases hr.symm.trans h1
  exact va_castS X.1 X.2.1 X.2.2.2.1 (za_wd X hw rfl) ((za_kK X).1 ci r hr).2 h2 d (k H locs L hR hK hl hL)
theorem za_objInit (X : za_X C) {idx a : Nat} (d : decode C.M.cc pc = .ok (.invokespecial idx, 3)) (h1 : Cond.methodLink C.M.y.cls idx objectInit ∈ lw_tbl) (h2 : Cond.instanceMethod objectInit ∈ lw_tbl) (h3 : Cond.code objectInit ⟨#[0xb1]⟩ 1 none ∈ lw_tbl) (hfr : 1 ≤ C.M.fr) (hst : st.length ≤ 4) (k : za_w C (pc + 3) ls st h cells slots) : za_w C pc ls (.ref a :: st) h cells slots := fun H locs L hR hK hl hL => by
  have hcat : (st.map fun v => v.category).sum ≤ 2 * st.length := by
    clear hst k
    induction st with
    | nil => simp
    | cons v vs ih =>
      have : v.category ≤ 2 := by cases v <;> simp [Value.category]
      simp only [List.map_cons, List.sum_cons, List.length_cons]
      omega
  refine W.objInit X.1 X.2.1 X.2.2.2.1 (za_wd X h1 rfl) (za_wd X h2 rfl) (za_wd X h3 rfl) rfl (by rw [X.2.2.1]; exact hL.size) rfl d hfr ?_ (k H locs L hR hK hl hL)
  show 2 * 0 + _ + 12 ≤ 39 * C.M.fr
  omega
end ZC
