/-! THE PLAIN LAYER (5): throw, getClass, arraycopy -/
/-- a word that a warmer table keeps -/
def za_gw (w : Jvm.Cond) : Bool := goodWord w || (match w with
  | .castable _ _ => true
  | .declares _ => true
  | _ => false)
def za_nm : List String := ["java/lang/RuntimeException", "java/lang/Exception"]
section ZE
variable {C : za_C} {pc : Nat} {ls : za_L} {st : List Value} {h : za_H} {cells slots : Nat}
theorem za_wd2 (X : za_X C) {w : Jvm.Cond} (hw : w ∈ lw_tbl) (hg : za_gw w = true) : w.before C.args C.s = true := by
  obtain ⟨A0, hA0⟩ := X.2.2.2.2.2.2.1.2.1
  cases hgo : goodWord w with
  | true => exact za_wd X hw hgo
  | false =>
    unfold za_gw at hg
    rw [hgo, Bool.false_or] at hg
    cases w <;> simp only [Bool.false_eq_true] at hg
    · exact va_Nw.use rfl (va_Nw.warmD X.2.2.2.2.2.1.1 (va_Nw.of rfl (hA0 _ hw)))
    · exact za_cst X hw
/-- a throw's link: class, text, constructor, exception k -/
def za_tl (own : String) (ik is ic k : Nat) : Prop := (own = RX7 ∨ own = RX3) ∧ k < 3 ∧ (∃ text, Jvm.Cond.stringRef own is text ∈ lw_tbl) ∧ Jvm.Cond.classLink own ik (za_e k) ∈ lw_tbl ∧ Jvm.Cond.initialized (za_e k) ∈ lw_tbl ∧
  (∀ w ∈ vx_atS own ic (za_e k) za_nm, w ∈ lw_tbl) ∧ (∀ w ∈ vx_atS own ic (za_e k) za_nm, za_gw w = true) ∧ (∀ w ∈ Jvm.Cond.classLink own ik (za_e k) :: Jvm.Cond.initialized (za_e k) :: vx_atS own ic (za_e k) za_nm, vx_ot w = true)
theorem za_fitE {k : Nat} (hk : k < 3) : Bundle.fit (za_e k) = true := by
  match k, hk with
  | 0, _ => decide +kernel
  | 1, _ => decide +kernel
  | 2, _ => decide +kernel
theorem za_nmE : ∀ n ∈ za_nm, Bundle.fit n = true := by decide +kernel
theorem za_vS (X : za_X C) {H : Heap} {locs : List Loc} (hK : za_K C.G H) (hz : C.s.heap.size ≤ H.size) (hl : ∀ z ∈ locs, za_A C.G z.base) : va_S (za_A C.G) C.s.heap H locs :=
  ⟨hz, fun q _ h => by
    rw [hK.2 q h, X.2.2.2.2.2.1.2.2 q h], hl⟩
theorem za_str (X : za_X C) {own : String} {is : Nat} {text : String} (ho : own = RX7 ∨ own = RX3) (hs : Jvm.Cond.stringRef own is text ∈ lw_tbl) : ∃ sa, vk_R own is text sa C.s := by
  have F := X.2.2.2.2.2.2.1
  have hW := X.2.2.2.2.2.1.1
  rcases ho with rfl | rfl
  · obtain ⟨sa, h1⟩ := F.2.2.2.2.2.2.2.1 is text hs
    exact ⟨sa, vk_R.warm hW h1⟩
  · obtain ⟨sa, h1⟩ := F.2.2.2.2.2.2.2.2.1 is text hs
    exact ⟨sa, vk_R.warm hW h1⟩
theorem za_zq (X : za_X C) {n d : String} (hz : vx_Zq Bundle.tN n d (za_A C.G) C.G.s C.G.s.heap) : vx_Zq Bundle.tN n d (za_A C.G) C.s C.s.heap :=
  vx_Zq.moved (za_al X) (hz.kept fun a ha hA => X.2.2.2.2.2.1.2.2 a hA)
theorem za_throw (X : za_X C) {ik is ic k : Nat} (hh : C.M.hh = []) (ht : za_tl C.M.y.cls ik is ic k) (d0 : decode C.M.cc pc = .ok (.new ik, 3)) (d3 : decode C.M.cc (pc + 3) = .ok (.dup, 1)) (d4 : decode C.M.cc (pc + 4) = .ok (.ldc is, 2)) (d6 : decode C.M.cc (pc + 6) = .ok (.invokespecial ic, 3)) (d9 : decode C.M.cc (pc + 9) = .ok (.athrow, 1))
    (hfr : 6 ≤ C.M.fr) (hst : st.length ≤ 4) (hc : cells + 1 ≤ C.mc) (hs : slots + 6 ≤ C.ms) (hk : C.K (.inr k) h) : za_w C pc ls st h cells slots := fun H locs L hR hK hl hL => by
  obtain ⟨ho, hk3, ⟨text, t1⟩, t2, t3, t4, t5, t6⟩ := ht
  obtain ⟨sa, hstr⟩ := za_str X ho t1
  have htab : C.c.exceptionTable.toList = [] := by rw [X.2.2.2.2.2.2.2.2.2, hh]; rfl
  have F := X.2.2.2.2.2.2.1
  have hsum := za_sum st
  intro T hT Xs
  have hz : C.s.heap.size ≤ H.size := by rw [← hT]; exact Xs.same.2.1
  exact vx_throwS X.1 X.2.1 F.1 X.2.2.2.1 (za_fitE hk3) za_nmE (za_wd X t2 rfl) (za_wd X t3 rfl) hstr (fun w hw => za_wd2 X (t4 w hw) (t5 w hw)) t6 (za_zq X F.2.2.2.2.2.1) (za_zq X F.2.2.2.2.2.2.1) (za_vS X hK hz hl) (by rw [hL.size, X.2.2.1])
    d0 d3 d4 d6 d9 (fun x hx => by rw [htab] at hx; cases hx) (by show 2 + 3 < C.M.fr; omega) (by show _ + (13 * (2 + 1) + 43) ≤ 39 * C.M.fr; omega) hc hs X.2.2.2.2.1
    (fun t _ h1 h2 => ⟨k, h, rfl, hk, hR.grow h2, hK.push h1 h2⟩) hl hc hs T hT Xs
theorem za_throwW (X : za_X C) {ik is ic k : Nat} (hh : C.M.hh = []) (ht : za_tl C.M.y.cls ik is ic k) (d0 : decode C.M.cc pc = .ok (.new ik, 3)) (d3 : decode C.M.cc (pc + 3) = .ok (.dup, 1)) (d4 : decode C.M.cc (pc + 4) = .ok (.ldc_w is, 3)) (d6 : decode C.M.cc (pc + 7) = .ok (.invokespecial ic, 3)) (d9 : decode C.M.cc (pc + 10) = .ok (.athrow, 1))
    (hfr : 6 ≤ C.M.fr) (hst : st.length ≤ 4) (hc : cells + 1 ≤ C.mc) (hs : slots + 6 ≤ C.ms) (hk : C.K (.inr k) h) : za_w C pc ls st h cells slots := fun H locs L hR hK hl hL => by
  obtain ⟨ho, hk3, ⟨text, t1⟩, t2, t3, t4, t5, t6⟩ := ht
  obtain ⟨sa, hstr⟩ := za_str X ho t1
  have htab : C.c.exceptionTable.toList = [] := by rw [X.2.2.2.2.2.2.2.2.2, hh]; rfl
  have F := X.2.2.2.2.2.2.1
  have hsum := za_sum st
  intro T hT Xs
  have hz : C.s.heap.size ≤ H.size := by rw [← hT]; exact Xs.same.2.1
  exact vx_throwSW X.1 X.2.1 F.1 X.2.2.2.1 (za_fitE hk3) za_nmE (za_wd X t2 rfl) (za_wd X t3 rfl) hstr (fun w hw => za_wd2 X (t4 w hw) (t5 w hw)) t6 (za_zq X F.2.2.2.2.2.1) (za_zq X F.2.2.2.2.2.2.1) (za_vS X hK hz hl) (by rw [hL.size, X.2.2.1])
    d0 d3 d4 d6 d9 (fun x hx => by rw [htab] at hx; cases hx) (by show 2 + 3 < C.M.fr; omega) (by show _ + (13 * (2 + 1) + 43) ≤ 39 * C.M.fr; omega) hc hs X.2.2.2.2.1
    (fun t _ h1 h2 => ⟨k, h, rfl, hk, hR.grow h2, hK.push h1 h2⟩) hl hc hs T hT Xs
def za_max (a b : Int32) : Int32 := if a < b then b else a
def za_min (a b : Int32) : Int32 := if b < a then b else a
theorem za_mmax (X : za_X C) {idx : Nat} {a b : Int32} (d : decode C.M.cc pc = .ok (.invokestatic idx, 3)) (h1 : Jvm.Cond.methodLink C.M.y.cls idx Lib.Math.max.name ∈ lw_tbl) (h2 : Jvm.Cond.static Lib.Math.max.name ∈ lw_tbl) (h3 : Jvm.Cond.initialized "java/lang/Math" ∈ lw_tbl) (h4 : Jvm.Cond.code Lib.Math.max.name Lib.Math.max.code 2 (some .int) ∈ lw_tbl) (hfr : 1 ≤ C.M.fr) (hc : cells ≤ C.mc) (hs : slots ≤ C.ms) (hst : st.length ≤ 4) (k : za_w C (pc + 3) ls (.int (za_max a b) :: st) h cells slots) : za_w C pc ls (.int b :: .int a :: st) h cells slots := fun H locs L hR hK hl hL => by
  have hsum := za_sum st
  refine va_mmax X.1 X.2.1 (by rw [X.2.2.1, hL.size]) X.2.2.2.1 (za_wd X h1 rfl) (za_wd X h2 rfl) (za_wd X h3 rfl) (za_wd X h4 rfl) hfr ?_ hc hs d (k H locs L hR hK hl hL)
  show _ + 13 ≤ 39 * C.M.fr
  omega
theorem za_mmin (X : za_X C) {idx : Nat} {a b : Int32} (d : decode C.M.cc pc = .ok (.invokestatic idx, 3)) (h1 : Jvm.Cond.methodLink C.M.y.cls idx Lib.Math.min.name ∈ lw_tbl) (h2 : Jvm.Cond.static Lib.Math.min.name ∈ lw_tbl) (h3 : Jvm.Cond.initialized "java/lang/Math" ∈ lw_tbl) (h4 : Jvm.Cond.code Lib.Math.min.name Lib.Math.min.code 2 (some .int) ∈ lw_tbl) (hfr : 1 ≤ C.M.fr) (hc : cells ≤ C.mc) (hs : slots ≤ C.ms) (hst : st.length ≤ 4) (k : za_w C (pc + 3) ls (.int (za_min a b) :: st) h cells slots) : za_w C pc ls (.int b :: .int a :: st) h cells slots := fun H locs L hR hK hl hL => by
  have hsum := za_sum st
  refine va_mmin X.1 X.2.1 (by rw [X.2.2.1, hL.size]) X.2.2.2.1 (za_wd X h1 rfl) (za_wd X h2 rfl) (za_wd X h3 rfl) (za_wd X h4 rfl) hfr ?_ hc hs d (k H locs L hR hK hl hL)
  show _ + 13 ≤ 39 * C.M.fr
  omega
def za_gc : MethodName := ⟨"java/lang/Object", "getClass", "()Ljava/lang/Class;"⟩
theorem za_getC (X : za_X C) {idx a : Nat} {x : vp_A} (d : decode C.M.cc pc = .ok (.invokevirtual idx, 3)) (ha : h a = some (.inl (.object "java/lang/Object", x))) (h1 : Jvm.Cond.methodLink C.M.y.cls idx za_gc ∈ lw_tbl) (h2 : Jvm.Cond.declares za_gc ∈ lw_tbl) (h3 : Jvm.Cond.selects "[Ljava/lang/Object;" za_gc za_gc ∈ lw_tbl) (h4 : Jvm.Cond.instanceMethod za_gc ∈ lw_tbl) (h5 : Jvm.Cond.native za_gc ∈ lw_tbl) (hfr : 1 ≤ C.M.fr) (hst : st.length ≤ 4) (k : za_w C (pc + 3) ls (.ref C.G.mi :: st) h cells slots) : za_w C pc ls (.ref a :: st) h cells slots := fun H locs L hR hK hl hL => by
  obtain ⟨cA, a1, a2, a3⟩ := za_arr X hR ha (fun q => by cases q)
  have hsum := za_sum st
  refine va_getC (C := "[Ljava/lang/Object;") X.1 X.2.1 (by rw [X.2.2.1, hL.size]) X.2.2.2.1 (za_wd X h1 rfl) (za_wd2 X h2 rfl) (za_wd X h3 rfl) (za_wd X h4 rfl) (za_wd X h5 rfl) (va_Mi.moved (za_al X) X.2.2.2.2.2.2.1.2.2.2.2.2.2.2.2.2.1) ⟨_, a3, ?_, ?_⟩ hfr ?_ d (k H locs L hR hK hl hL)
  · obtain ⟨n, f | f | f | f | f⟩ := x <;> rfl
  · have hn := va_nmO (nm := "[Ljava/lang/Object;") a2 (by decide +kernel)
    rw [hn]
    obtain ⟨n, f | f | f | f | f⟩ := x <;> rfl
  · show _ + 14 ≤ 39 * C.M.fr
    omega
theorem za_copy (X : za_X C) {idx a a0 n0 n1 ci : Nat} {r : vw_C} {f g : Nat → Option Nat} {sp dp n : Int32} (d : decode C.M.cc pc = .ok (.invokestatic idx, 3)) (w1 : Jvm.Cond.methodLink C.M.y.cls idx arraycopyName ∈ lw_tbl) (w2 : Jvm.Cond.native arraycopyName ∈ lw_tbl) (w3 : Jvm.Cond.static arraycopyName ∈ lw_tbl) (w4 : Jvm.Cond.initialized "java/lang/System" ∈ lw_tbl)
    (ha0 : h a0 = some (.inl (.object "java/lang/Object", n0, .inr (.inr (.inr (.inr f)))))) (ha1 : h a = some (.inl (.object "java/lang/Object", n1, .inr (.inr (.inr (.inr g))))))
    (h1 : ¬ sp < 0) (h2 : ¬ dp < 0) (h3 : ¬ n < 0) (h4 : sp.toNatClampNeg + n.toNatClampNeg ≤ n0) (h5 : dp.toNatClampNeg + n.toNatClampNeg ≤ n1) (hr : vwCl[ci]? = some r) (hca : Jvm.Cond.castable r.1 "java/lang/Object" ∈ lw_tbl) (hel : ∀ i : Nat, i < n.toNatClampNeg → ∀ y : Nat, f (sp.toNatClampNeg + i) = some y → ∃ vs, h y = some (.inr (ci, vs)))
    (hfr : 1 ≤ C.M.fr) (hst : st.length ≤ 4) (k : za_w C (pc + 3) ls st (za_up h a (.inl (.object "java/lang/Object", n1, .inr (.inr (.inr (.inr (va_cpy f g sp.toNatClampNeg dp.toNatClampNeg n.toNatClampNeg))))))) cells slots) : za_w C pc ls (.int n :: .int dp :: .ref a :: .int sp :: .ref a0 :: st) h cells slots := fun H locs L hR hK hl hL => by
  obtain ⟨c0, b1, b2, hc0⟩ := za_arr X hR ha0 (fun q => by cases q)
  obtain ⟨c1, b3, b4, hc1⟩ := za_arr X hR ha1 (fun q => by cases q)
  obtain ⟨hb, hc9⟩ := hR a _ ha1
  obtain ⟨cA', h1', h2', h3'⟩ := za_cyn hc9 (fun q => by cases q)
  have hA : za_A C.G a := hb
  have hsum := za_sum st
  have nn : ∀ z : Int32, ¬ z < 0 → z.toInt = (z.toNatClampNeg : Int) := by
    intro z hz
    have hz0 : (0 : Int) ≤ z.toInt := by
      have := Int32.not_lt.mp hz
      simpa using Int32.le_iff_toInt_le.mp this
    show z.toInt = ((z.toInt.toNat : Nat) : Int)
    omega
  have hasg := vb_asgC (s := C.s) (va_Nw.of (A := C.args) rfl (za_cst X hca))
  intro T hT Xs
  obtain ⟨-, k0, hk0, cm0, hkk0⟩ := b1 n0 (fun j => va_rf (f j))
  obtain ⟨-, k1, hk1, cm1, hkk1⟩ := b3 n1 (fun j => va_rf (g j))
  obtain ⟨vm', X', step⟩ := Xs.arraycopy X.1 X.2.2.2.1 (za_wd X w1 rfl) (za_wd X w2 rfl) (za_wd X w3 rfl) (za_wd X w4 rfl) (src := a0) (dst := a) (cs := vp_cell c0 (n0, .inr (.inr (.inr (.inr f))))) (cd := vp_cell c1 (n1, .inr (.inr (.inr (.inr g))))) (srcPos := sp) (destPos := dp) (n := n) (by rw [hT]; exact hc0) (by rw [hT]; exact hc1)
    (fun _ h => by cases h) (fun _ h => by cases h) (fun h => by cases h) (fun h => by cases h) hk0 hk1 hkk0 hkk1 rfl h1 h2 h3
    (by rw [nn sp h1, nn n h3]; show ¬ _ > ((arrV c0 n0 (fun j => va_rf (f j))).slots.size : Int); rw [arrV_size]; omega)
    (by rw [nn dp h2, nn n h3]; show ¬ _ > ((arrV c1 n1 (fun j => va_rf (g j))).slots.size : Int); rw [arrV_size]; omega)
    (fun vm₁ hal i hi => by
      have e : (vp_cell c0 (n0, .inr (.inr (.inr (.inr f))))).slots.getD (sp.toNatClampNeg + i) .null = va_rf (f (sp.toNatClampNeg + i)) := by
        show (arrV c0 n0 (fun j => va_rf (f j))).slots.getD _ _ = _
        rw [Array.getD_eq_getD_getElem?, arrV_read _ _ (by omega)]
        rfl
      rw [e]
      cases hy : f (sp.toNatClampNeg + i) with
      | none => exact ⟨rfl, trivial⟩
      | some y =>
        obtain ⟨vs, hvs⟩ := hel i hi y hy
        obtain ⟨r', hr', -, cellV, g1, g2, g3⟩ := za_ob X hR hvs
        cases hr.symm.trans hr'
        obtain ⟨kA, comp, r1, r2, r3, -⟩ := b4
        cases hk1.symm.trans r1
        cases hkk1.symm.trans r2
        obtain ⟨kC, hkC, -⟩ := Vm.findClass_spec g3
        obtain ⟨kE, hkE, -⟩ := Vm.findClass_spec r3
        obtain ⟨kC', hkC', -⟩ := hal.2.2 _ _ hkC
        obtain ⟨kE', hkE', -⟩ := hal.2.2 _ _ hkE
        refine ⟨rfl, cellV, (show T.heap[y]? = some cellV by rw [hT]; exact g1), (fun q h => by rw [h] at g2; cases g2), ⟨kC', hkC'⟩, ?_, ?_⟩
        · exact ⟨kE', hkE'⟩
        · show vm₁.assignable _ _ = true
          rw [hal.assignable]
          exact hasg _ _ r3 g3)
    (g := F0 C.m pc L (.int n :: .int dp :: .ref a :: .int sp :: .ref a0 :: st)) rfl (by rw [X.2.2.1]; exact hL.size) (rest := st) rfl (by rw [X.2.1]; exact d) hfr (by
      show 2 * 0 + _ + _ ≤ 39 * C.M.fr
      have hw : nativeFrameWords "java/lang/System" "arraycopy" 5 ≤ 10 := (by decide +kernel)
      omega)
  have e1 : copied (vp_cell c0 (n0, .inr (.inr (.inr (.inr f))))) (vp_cell c1 (n1, .inr (.inr (.inr (.inr g))))) sp dp n = vp_cell c1 (n1, .inr (.inr (.inr (.inr (va_cpy f g sp.toNatClampNeg dp.toNatClampNeg n.toNatClampNeg))))) := by
    rw [vp_cell_q, vp_cell_q, vp_cell_q]
    exact va_copied (fun z => va_rf z) c0 c1 f g h4
  rw [e1] at X' step
  have hlt : a < H.size := (Array.getElem?_eq_some_iff.mp hc1).1
  have hheap : ((T.setVm vm').setCell a (vp_cell c1 (n1, .inr (.inr (.inr (.inr (va_cpy f g sp.toNatClampNeg dp.toNatClampNeg n.toNatClampNeg)))))) ).heap = H.setIfInBounds a (vp_cell c1 (n1, .inr (.inr (.inr (.inr (va_cpy f g sp.toNatClampNeg dp.toNatClampNeg n.toNatClampNeg)))))) := by rw [← hT]; rfl
  have oq : ∀ q : Nat, q ≠ a → (H.setIfInBounds a (vp_cell c1 (n1, .inr (.inr (.inr (.inr (va_cpy f g sp.toNatClampNeg dp.toNatClampNeg n.toNatClampNeg)))))))[q]? = H[q]? := fun q hq => by simp [Array.getElem?_setIfInBounds, Ne.symm hq]
  have ec : vp_cell cA' (n1, .inr (.inr (.inr (.inr g)))) = vp_cell c1 (n1, .inr (.inr (.inr (.inr g)))) := Option.some.inj (h3'.symm.trans hc1)
  have ec2 : cA' = c1 := congrArg Cell.cls ec
  obtain ⟨t, a1, b1⟩ := k (H.setIfInBounds a (vp_cell c1 (n1, .inr (.inr (.inr (.inr (va_cpy f g sp.toNatClampNeg dp.toNatClampNeg n.toNatClampNeg))))))) _ L (hR.set ha1 (Or.inl ⟨cA', h1', h2', (by rw [ec2]; show (H.setIfInBounds a _)[a]? = some _; simp [Array.getElem?_setIfInBounds, hlt])⟩) oq) (hK.set hA (by simp) oq) (fun z hz => by
      rcases List.mem_append.mp hz with q | q
      · exact hl z q
      · obtain ⟨w, -, hw⟩ := List.mem_map.mp q
        rw [← hw]
        exact hA) hL _ hheap X'
  exact ⟨t, step t a1, b1⟩
end ZE
