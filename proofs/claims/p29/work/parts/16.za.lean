/-! THE PLAIN LAYER (9): numbers, literals -/
theorem za_fn_0 : za_fn 0 = 0 := rfl
theorem za_fn_1 : za_fn 1 = 1 := rfl
theorem za_fn_2 : za_fn 2 = 2 := rfl
theorem za_fn_3 : za_fn 3 = 3 := rfl
theorem za_cd_eq (x y : Int32) : za_cd .eq x y = (x = y) := rfl
theorem za_cd_ne (x y : Int32) : za_cd .ne x y = (¬ x = y) := rfl
theorem za_cd_lt (x y : Int32) : za_cd .lt x y = (x < y) := rfl
theorem za_cd_ge (x y : Int32) : za_cd .ge x y = (y ≤ x) := rfl
theorem za_cd_gt (x y : Int32) : za_cd .gt x y = (y < x) := rfl
theorem za_cd_le (x y : Int32) : za_cd .le x y = (x ≤ y) := rfl
theorem za_cat_i (x : Int32) : (Value.int x).category = 1 := rfl
theorem za_cat_r (a : Nat) : (Value.ref a).category = 1 := rfl
theorem za_cat_n : Value.null.category = 1 := rfl
theorem zn_le {a b : Nat} (ha : a < 2147483648) (hb : b < 2147483648) : nI a ≤ nI b ↔ a ≤ b := ⟨fun q => Nat.le_of_not_lt fun z => nI_ge z ha q, fun q => nI_le q hb⟩
theorem zn_lt {a b : Nat} (ha : a < 2147483648) (hb : b < 2147483648) : nI a < nI b ↔ a < b := ⟨fun q => Nat.lt_of_not_le fun z => nI_nlt z ha q, fun q => nI_lt q hb⟩
theorem zn_eq {a b : Nat} (ha : a < 2147483648) (hb : b < 2147483648) : nI a = nI b ↔ a = b := ⟨fun q => by
  have z := congrArg Int32.toInt q
  rw [nI_toInt ha, nI_toInt hb] at z
  exact Int.ofNat_inj.mp z, fun q => by rw [q]⟩
theorem zn_in {j n : Nat} (hj : j < n) (hn : n < 2147483648) : vp_in (nI j) n := pk_in j n hj
theorem zx_le {x y : Int32} : x ≤ y ↔ x.toInt ≤ y.toInt := Int32.le_iff_toInt_le
theorem zx_lt {x y : Int32} : x < y ↔ x.toInt < y.toInt := Int32.lt_iff_toInt_lt
theorem zx_eq {x y : Int32} : x = y ↔ x.toInt = y.toInt := Int32.toInt_inj.symm
theorem zx_n {x : Int32} (h : 0 ≤ x.toInt) : ∃ n : Nat, n < 2147483648 ∧ x = nI n ∧ x.toInt = n := by
  have hb := x.toInt_lt
  refine ⟨x.toInt.toNat, by omega, ?_, by omega⟩
  rw [zx_eq, nI_toInt (by omega)]
  omega
/-- a yes or no as an int -/
def zb (b : Bool) : Int32 := match b with
  | true => nI 1
  | false => nI 0
theorem zb_t : zb true = nI 1 := rfl
theorem zb_f : zb false = nI 0 := rfl
theorem zb_eq0 (b : Bool) : zb b = nI 0 ↔ b = false := by cases b <;> decide +kernel
theorem zb_narrow (b : Bool) : narrow .boolean (.int (zb b)) = .int (zb b) := by cases b <;> decide +kernel
theorem zb_n0 : narrow .boolean (.int (nI 0)) = .int (nI 0) := by decide +kernel
theorem zb_n1 : narrow .boolean (.int (nI 1)) = .int (nI 1) := by decide +kernel
theorem zn_narrow (x : Int32) : narrow .int (.int x) = .int x := rfl
theorem zb_01 (b : Bool) : zb b = nI 0 ∨ zb b = nI 1 := by cases b; exact Or.inl rfl; exact Or.inr rfl
/-- a method by its body, with the rows themselves at hand; arguments may be longs -/
theorem za_mL {G : za_G} {y : MethodName} {cc : ByteArray} {nL : Nat} {ret : Option FieldType} {fr : Nat} {lk : za_LK} {hx : List Nat} {ini : Bool} {cuts : Nat → Bool} {as : List Value} {h : za_H} {mc ms : Nat} {K : za_O → za_H → Prop} (F : za_F G) (hlk : za_lk y.cls lk) (hini : ini = true → y.name = "<init>") (hpl : plainName y.cls = true) (has : (lg_sl as).length ≤ nL)
    (body : ∀ w : za_N, (∀ (n pc : Nat) (ls : za_L) (st : List Value) (h : za_H) (c s : Nat), za_f G cc ret [] hx ini fr lk mc ms K cuts w n pc ls st h c s → w pc ls st h c s) → w 0 (za_la as ++ List.replicate (nL - (za_la as).length) none) [] h 0 0) : za_P G (y, cc, nL, ret, [], fr) as h mc ms K := by
  refine vx_ofW (cc := cc) (maxL := nL) (ret := ret) (ws' := []) hpl rfl ?_
  intro p e s m args below meth c s₁ B hml ht hPc
  obtain ⟨rfl, hW, hR⟩ := hPc
  have X : za_X (G, (y, cc, nL, ret, [], fr), mc, ms, K, p, e, s, m, as.toArray, below, meth, c) := ⟨B.exec, B.bytes, hml, findClass_of_methodNamed B.named, B.notSynchronized, hW, F, (name_of_methodNamed B.named B.method).1, B.returns, List.eq_nil_iff_forall_not_mem.mpr ht⟩
  have hb := body (za_w (G, (y, cc, nL, ret, [], fr), mc, ms, K, p, e, s, m, as.toArray, below, meth, c)) (za_f_ok X hlk trivial hini)
  have h9 := hb s.heap [] _ hR hW.2 (fun z hz => by cases hz) (za_l.entry2 as nL has)
  rw [lg_entry_eq m as]
  exact h9
/-- a method by its body, with the rows themselves at hand -/
theorem za_mX {G : za_G} {y : MethodName} {cc : ByteArray} {nL : Nat} {ret : Option FieldType} {hh : List (Nat × Nat × Nat × Nat)} {fr : Nat} {lk : za_LK} {hx : List Nat} {ini : Bool} {cuts : Nat → Bool} {as : List Value} {h : za_H} {mc ms : Nat} {K : za_O → za_H → Prop} (F : za_F G) (hlk : za_lk y.cls lk) (hht : za_ht y.cls hh hx) (hini : ini = true → y.name = "<init>") (hpl : plainName y.cls = true) (has : as.length ≤ nL) (hcat : ∀ v ∈ as, v.category = 1)
    (body : ∀ R, za_X (G, (y, cc, nL, ret, hh, fr), mc, ms, K, R) → (∀ (n pc : Nat) (ls : za_L) (st : List Value) (h : za_H) (c s : Nat), za_f G cc ret hh hx ini fr lk mc ms K cuts (za_w (G, (y, cc, nL, ret, hh, fr), mc, ms, K, R)) n pc ls st h c s → za_w (G, (y, cc, nL, ret, hh, fr), mc, ms, K, R) pc ls st h c s) → za_w (G, (y, cc, nL, ret, hh, fr), mc, ms, K, R) 0 (as.map some ++ List.replicate (nL - as.length) none) [] h 0 0) : za_P G (y, cc, nL, ret, hh, fr) as h mc ms K := by
  have start : ∀ p e s m args below meth c s₁, BodyLoose p G.l y (headSpec [za_cw (y, cc, nL, ret, hh, fr)] (za_rm fr mc ms)) cc nL ret e s m args below meth c s₁ → c.maxLocals = nL → c.exceptionTable.toList = tableOf hh → za_Pc G as h args s →
      W p G.l e (headSpec [za_cw (y, cc, nL, ret, hh, fr)] (za_rm fr mc ms)).room s m args below meth c s.heap [] 0 0 (vx_MQ below (za_Qc G K) (za_Xc G K) args s mc ms (za_A G)) (entryFrame m args nL) := by
    intro p e s m args below meth c s₁ B hml ht hPc
    obtain ⟨rfl, hW, hR⟩ := hPc
    have X : za_X (G, (y, cc, nL, ret, hh, fr), mc, ms, K, p, e, s, m, as.toArray, below, meth, c) := ⟨B.exec, B.bytes, hml, findClass_of_methodNamed B.named, B.notSynchronized, hW, F, (name_of_methodNamed B.named B.method).1, B.returns, ht⟩
    have hb := body (p, e, s, m, as.toArray, below, meth, c) X (za_f_ok X hlk hht hini)
    have h9 := hb s.heap [] _ hR hW.2 (fun z hz => by cases hz) (za_l.entry as nL has hcat)
    rw [entry_eq m as hcat]
    exact h9
  unfold za_P
  cases hq : hh with
  | nil =>
    subst hq
    refine vx_ofW (cc := cc) (maxL := nL) (ret := ret) (ws' := []) hpl rfl ?_
    intro p e s m args below meth c s₁ B hml ht hPc
    exact start p e s m args below meth c s₁ B hml (List.eq_nil_iff_forall_not_mem.mpr ht) hPc
  | cons t ts =>
    subst hq
    refine vx_ofWH (cc := cc) (maxL := nL) (ret := ret) (hh := t :: ts) (ws' := []) hpl rfl ?_
    intro p e s m args below meth c s₁ B hml hPc
    exact start p e s m args below meth c s₁ B hml (vx_table (x := y) B (bytes := cc) (maxL' := nL) (ret' := ret) (atoms_spec (ws := [za_cw (y, cc, nL, ret, t :: ts, fr)]) B.pre _ List.mem_cons_self)) hPc
theorem za_fit_i (x : Int32) : za_fit .int (.int x) = True := eq_true ⟨rfl, rfl⟩
theorem za_fit_b (b : Bool) : za_fit .boolean (.int (zb b)) = True := by cases b <;> exact eq_true (by unfold za_fit; decide +kernel)
theorem za_fit_b0 : za_fit .boolean (.int (nI 0)) = True := za_fit_b false
theorem za_fit_b1 : za_fit .boolean (.int (nI 1)) = True := za_fit_b true
theorem za_fit_r (E : String) (a : Nat) : za_fit (.object E) (.ref a) = True := eq_true ⟨rfl, rfl⟩
theorem za_fit_n (E : String) : za_fit (.object E) .null = True := eq_true ⟨rfl, rfl⟩
theorem za_fit_a (t : FieldType) (a : Nat) : za_fit (.array t) (.ref a) = True := eq_true ⟨rfl, rfl⟩
theorem za_upup (h : za_H) (a : Nat) (e e1 : za_E) : za_up (za_up h a e) a e1 = za_up h a e1 := by
  funext q
  by_cases z : q = a
  · subst z; rw [za_up_s, za_up_s]
  · rw [za_up_n _ _ z, za_up_n _ _ z, za_up_n _ _ z]
theorem za_upc (h : za_H) {a b : Nat} (e e1 : za_E) (n : a ≠ b) : za_up (za_up h a e) b e1 = za_up (za_up h b e1) a e := by
  funext q
  by_cases z : q = a
  · subst z; rw [za_up_s, za_up_n _ _ n, za_up_s]
  · by_cases y : q = b
    · subst y; rw [za_up_s, za_up_n _ _ z, za_up_s]
    · rw [za_up_n _ _ y, za_up_n _ _ z, za_up_n _ _ z, za_up_n _ _ y]
theorem za_max_n {a b : Nat} (ha : a < 2147483648) (hb : b < 2147483648) : za_max (nI a) (nI b) = nI (max a b) := by
  unfold za_max
  by_cases q : a < b
  · rw [if_pos ((zn_lt ha hb).mpr q), Nat.max_eq_right (by omega)]
  · rw [if_neg (fun z => q ((zn_lt ha hb).mp z)), Nat.max_eq_left (by omega)]
theorem za_min_n {a b : Nat} (ha : a < 2147483648) (hb : b < 2147483648) : za_min (nI a) (nI b) = nI (min a b) := by
  unfold za_min
  by_cases q : b < a
  · rw [if_pos ((zn_lt hb ha).mpr q), Nat.min_eq_right (by omega)]
  · rw [if_neg (fun z => q ((zn_lt hb ha).mp z)), Nat.min_eq_left (by omega)]
theorem zi_l0 : Int64.ofNat ((0 : Fin 2) : Nat) = 0 := rfl
theorem zi_l1 : Int64.ofNat ((1 : Fin 2) : Nat) = 1 := rfl
