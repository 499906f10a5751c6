/-! THE PLAIN LAYER (2): methods, links, the judgement of a point of a method's body, its rows -/
/-- a method: its name, code, locals, answer's type, its handlers (start, end, handler, pool's index), frames below it -/
abbrev za_M : Type := MethodName × ByteArray × Nat × Option FieldType × List (Nat × Nat × Nat × Nat) × Nat
abbrev za_M.y (M : za_M) : MethodName := M.1
abbrev za_M.cc (M : za_M) : ByteArray := M.2.1
abbrev za_M.nL (M : za_M) : Nat := M.2.2.1
abbrev za_M.ret (M : za_M) : Option FieldType := M.2.2.2.1
abbrev za_M.hh (M : za_M) : List (Nat × Nat × Nat × Nat) := M.2.2.2.2.1
abbrev za_M.fr (M : za_M) : Nat := M.2.2.2.2.2
def za_cw (M : za_M) : Cond := match M.hh with
  | [] => .code M.y M.cc M.nL M.ret
  | _ :: _ => .codeWith M.y M.cc M.nL M.ret M.hh
/-- the exceptions' names -/
def za_e (k : Nat) : String := match k with
  | 0 => "java/lang/IllegalArgumentException"
  | 1 => "java/lang/IllegalStateException"
  | _ => "java/lang/IndexOutOfBoundsException"
abbrev za_O : Type := Option Value ⊕ Nat
def za_rm (fr mc ms : Nat) : Room := { frames := fr, cells := mc, slots := ms, locals := 39 * fr }
def za_Pc (G : za_G) (as : List Value) (h : za_H) : Array Value → State → Prop := fun v U => v = as.toArray ∧ za_W G U ∧ za_R G h U.heap
def za_Qc (G : za_G) (K : za_O → za_H → Prop) : Array Value → State → Outcome → State → Prop := fun _ _ o t => ∃ (v : Option Value) (h' : za_H), o = .returned v ∧ K (.inl v) h' ∧ za_R G h' t.heap ∧ za_K G t.heap
def za_Xc (G : za_G) (K : za_O → za_H → Prop) : String → State → State → Prop := fun E _ t => ∃ (k : Nat) (h' : za_H), E = za_e k ∧ K (.inr k) h' ∧ za_R G h' t.heap ∧ za_K G t.heap
/-- method M, called with as in the heap h, makes at most mc cells of ms slots and comes to an outcome of K -/
def za_P (G : za_G) (M : za_M) (as : List Value) (h : za_H) (mc ms : Nat) (K : za_O → za_H → Prop) : Prop :=
  vx_Met G.l M.y [za_cw M] (za_rm M.fr mc ms) (za_Pc G as h) (za_Qc G K) (za_Xc G K) mc ms (za_A G)
theorem za_P.mono {G : za_G} {M : za_M} {as : List Value} {h : za_H} {mc ms : Nat} {K K' : za_O → za_H → Prop} (hP : za_P G M as h mc ms K) (hk : ∀ o h', K o h' → K' o h') : za_P G M as h mc ms K' := by
  intro p e ha hc hk2 s m args below hf happ hPc hKK
  obtain ⟨n, o, h1, h2, h3, h4⟩ := hP p e ha hc hk2 s m args below hf happ hPc hKK
  refine ⟨n, o, h1, h2, h3, ?_⟩
  rcases h4 with ⟨⟨v, h', e1, e2, e3⟩, h5⟩ | ⟨q, e1, E, ce, L, ⟨k, h', f1, f2, f3⟩, h6⟩
  · exact Or.inl ⟨⟨v, h', e1, hk _ _ e2, e3⟩, h5⟩
  · exact Or.inr ⟨q, e1, E, ce, L, ⟨k, h', f1, hk _ _ f2, f3⟩, h6⟩
/-- a method's run: start's facts, what it owes -/
abbrev za_C : Type := za_G × za_M × Nat × Nat × (za_O → za_H → Prop) × Program × Env × State × MethodId × Array Value × List Frame × Method × Code
abbrev za_C.G (C : za_C) : za_G := C.1
abbrev za_C.M (C : za_C) : za_M := C.2.1
abbrev za_C.mc (C : za_C) : Nat := C.2.2.1
abbrev za_C.ms (C : za_C) : Nat := C.2.2.2.1
abbrev za_C.K (C : za_C) : za_O → za_H → Prop := C.2.2.2.2.1
abbrev za_C.p (C : za_C) : Program := C.2.2.2.2.2.1
abbrev za_C.e (C : za_C) : Env := C.2.2.2.2.2.2.1
abbrev za_C.s (C : za_C) : State := C.2.2.2.2.2.2.2.1
abbrev za_C.m (C : za_C) : MethodId := C.2.2.2.2.2.2.2.2.1
abbrev za_C.args (C : za_C) : Array Value := C.2.2.2.2.2.2.2.2.2.1
abbrev za_C.below (C : za_C) : List Frame := C.2.2.2.2.2.2.2.2.2.2.1
abbrev za_C.meth (C : za_C) : Method := C.2.2.2.2.2.2.2.2.2.2.2.1
abbrev za_C.c (C : za_C) : Code := C.2.2.2.2.2.2.2.2.2.2.2.2
def za_R0 (C : za_C) : Room := za_rm C.M.fr C.mc C.ms
def za_Q0 (C : za_C) : State → Prop := vx_MQ C.below (za_Qc C.G C.K) (za_Xc C.G C.K) C.args C.s C.mc C.ms (za_A C.G)
def za_w (C : za_C) (pc : Nat) (ls : za_L) (st : List Value) (h : za_H) (cells slots : Nat) : Prop :=
  ∀ (H : Heap) (locs : List Loc) (L : Array Slot), za_R C.G h H → za_K C.G H → (∀ z ∈ locs, za_A C.G z.base) → za_l C.M.nL ls L → W C.p C.G.l C.e (za_R0 C) C.s C.m C.args C.below C.meth C.c H locs cells slots (za_Q0 C) (F0 C.m pc L st)
/-- own: the class whose code it is -/
def za_X (C : za_C) : Prop :=
  C.p.tables.exec = Jvm.exec ∧ C.c.code = C.M.cc ∧ C.c.maxLocals = C.M.nL ∧ C.s.vm.findClass C.M.y.cls = some C.m.cls ∧ C.meth.locks = false ∧ za_W C.G C.s ∧ za_F C.G ∧ C.meth.name = C.M.y.name ∧ C.meth.sig.returnType = C.M.ret ∧ C.c.exceptionTable.toList = tableOf C.M.hh
section ZB
variable {C : za_C} {pc : Nat} {ls : za_L} {st : List Value} {h : za_H} {cells slots : Nat}
theorem za_iconst (X : za_X C) {n : Int} (d : decode C.M.cc pc = .ok (.iconst n, 1)) (k : za_w C (pc + 1) ls (.int (Int32.ofInt n) :: st) h cells slots) : za_w C pc ls st h cells slots := fun H locs L hR hK hl hL => lv_iconst X.1 X.2.1 d rfl (k H locs L hR hK hl hL)
theorem za_bipush (X : za_X C) {n : Int} (d : decode C.M.cc pc = .ok (.bipush n, 2)) (k : za_w C (pc + 2) ls (.int (Int8.ofInt n).toInt32 :: st) h cells slots) : za_w C pc ls st h cells slots := fun H locs L hR hK hl hL => lv_bipush X.1 X.2.1 d rfl (k H locs L hR hK hl hL)
theorem za_sipush (X : za_X C) {n : Int} (d : decode C.M.cc pc = .ok (.sipush n, 3)) (k : za_w C (pc + 3) ls (.int (Int16.ofInt n).toInt32 :: st) h cells slots) : za_w C pc ls st h cells slots := fun H locs L hR hK hl hL => lv_sipush X.1 X.2.1 d rfl (k H locs L hR hK hl hL)
theorem za_lconst (X : za_X C) {n : Fin 2} (d : decode C.M.cc pc = .ok (.lconst n, 1)) (k : za_w C (pc + 1) ls (.long (Int64.ofNat (n : Nat)) :: st) h cells slots) : za_w C pc ls st h cells slots := fun H locs L hR hK hl hL => lv_lconst X.1 X.2.1 d rfl (k H locs L hR hK hl hL)
theorem za_null (X : za_X C) (d : decode C.M.cc pc = .ok (.aconst_null, 1)) (k : za_w C (pc + 1) ls (.null :: st) h cells slots) : za_w C pc ls st h cells slots := fun H locs L hR hK hl hL => lv_null X.1 X.2.1 d (k H locs L hR hK hl hL)
theorem za_iload_n (X : za_X C) {n : Fin 4} {x : Int32} (d : decode C.M.cc pc = .ok (.iload_n n, 1)) (hi : ls[(n : Nat)]? = some (some (.int x))) (k : za_w C (pc + 1) ls (.int x :: st) h cells slots) : za_w C pc ls st h cells slots := fun H locs L hR hK hl hL => lv_iload_n X.1 X.2.1 d rfl (hL.at hi (Or.inl rfl)) (k H locs L hR hK hl hL)
theorem za_iload (X : za_X C) {i : Nat} {x : Int32} (d : decode C.M.cc pc = .ok (.iload i, 2)) (hi : ls[i]? = some (some (.int x))) (k : za_w C (pc + 2) ls (.int x :: st) h cells slots) : za_w C pc ls st h cells slots := fun H locs L hR hK hl hL => lv_iload X.1 X.2.1 d (hL.at hi (Or.inl rfl)) (k H locs L hR hK hl hL)
/-- a reference or null -/
def za_rf (v : Value) : Prop := v = .null ∨ ∃ a, v = .ref a
theorem za_aload_n (X : za_X C) {n : Fin 4} {v : Value} (d : decode C.M.cc pc = .ok (.aload_n n, 1)) (hi : ls[(n : Nat)]? = some (some v)) (hv : za_rf v) (k : za_w C (pc + 1) ls (v :: st) h cells slots) : za_w C pc ls st h cells slots := fun H locs L hR hK hl hL => by
  rcases hv with rfl | ⟨a, rfl⟩
  · exact lv_aload_nN X.1 X.2.1 d rfl (hL.at hi (Or.inl rfl)) (k H locs L hR hK hl hL)
  · exact lv_aload_n X.1 X.2.1 d rfl (hL.at hi (Or.inl rfl)) (k H locs L hR hK hl hL)
theorem za_aload (X : za_X C) {i : Nat} {v : Value} (d : decode C.M.cc pc = .ok (.aload i, 2)) (hi : ls[i]? = some (some v)) (hv : za_rf v) (k : za_w C (pc + 2) ls (v :: st) h cells slots) : za_w C pc ls st h cells slots := fun H locs L hR hK hl hL => by
  rcases hv with rfl | ⟨a, rfl⟩
  · exact lv_aloadN X.1 X.2.1 d (hL.at hi (Or.inl rfl)) (k H locs L hR hK hl hL)
  · exact lv_aload X.1 X.2.1 d (hL.at hi (Or.inl rfl)) (k H locs L hR hK hl hL)
theorem za_istore_n (X : za_X C) {n : Fin 4} {x : Int32} (d : decode C.M.cc pc = .ok (.istore_n n, 1)) (hi : (n : Nat) < ls.length) (k : za_w C (pc + 1) (ls.set n (some (.int x))) st h cells slots) : za_w C pc ls (.int x :: st) h cells slots := fun H locs L hR hK hl hL => by
  obtain ⟨h1, A, h2, h3⟩ := hL
  exact lv_istore_n X.1 X.2.1 d rfl h2 (by omega) rfl (fun L' hL' => k H locs L' hR hK hl (za_l.put h1 h3 hL'))
theorem za_istore (X : za_X C) {i : Nat} {x : Int32} (d : decode C.M.cc pc = .ok (.istore i, 2)) (hi : i < ls.length) (k : za_w C (pc + 2) (ls.set i (some (.int x))) st h cells slots) : za_w C pc ls (.int x :: st) h cells slots := fun H locs L hR hK hl hL => by
  obtain ⟨h1, A, h2, h3⟩ := hL
  exact lv_istore X.1 X.2.1 d h2 (by omega) rfl (fun L' hL' => k H locs L' hR hK hl (za_l.put h1 h3 hL'))
theorem za_astore_n (X : za_X C) {n : Fin 4} {v : Value} (d : decode C.M.cc pc = .ok (.astore_n n, 1)) (hi : (n : Nat) < ls.length) (hv : za_rf v) (k : za_w C (pc + 1) (ls.set n (some v)) st h cells slots) : za_w C pc ls (v :: st) h cells slots := fun H locs L hR hK hl hL => by
  obtain ⟨h1, A, h2, h3⟩ := hL
  rcases hv with rfl | ⟨a, rfl⟩
  · exact lv_astore_nN X.1 X.2.1 d rfl h2 (by omega) rfl (fun L' hL' => k H locs L' hR hK hl (za_l.put h1 h3 hL'))
  · exact lv_astore_n X.1 X.2.1 d rfl h2 (by omega) rfl (fun L' hL' => k H locs L' hR hK hl (za_l.put h1 h3 hL'))
theorem za_astore (X : za_X C) {i : Nat} {v : Value} (d : decode C.M.cc pc = .ok (.astore i, 2)) (hi : i < ls.length) (hv : za_rf v) (k : za_w C (pc + 2) (ls.set i (some v)) st h cells slots) : za_w C pc ls (v :: st) h cells slots := fun H locs L hR hK hl hL => by
  obtain ⟨h1, A, h2, h3⟩ := hL
  rcases hv with rfl | ⟨a, rfl⟩
  · exact lv_astoreN X.1 X.2.1 d h2 (by omega) rfl (fun L' hL' => k H locs L' hR hK hl (za_l.put h1 h3 hL'))
  · exact lv_astore X.1 X.2.1 d h2 (by omega) rfl (fun L' hL' => k H locs L' hR hK hl (za_l.put h1 h3 hL'))
theorem za_iinc (X : za_X C) {i : Nat} {n : Int} {x : Int32} (d : decode C.M.cc pc = .ok (.iinc i n, 3)) (hi : ls[i]? = some (some (.int x))) (k : za_w C (pc + 3) (ls.set i (some (.int (x + Int32.ofInt n)))) st h cells slots) : za_w C pc ls st h cells slots := fun H locs L hR hK hl hL => by
  obtain ⟨h1, A, h2, h3⟩ := hL
  obtain ⟨j, hj⟩ := List.getElem?_of_mem (h3 i _ hi (Or.inl rfl))
  have hlt : i < ls.length := (List.getElem?_eq_some_iff.mp hi).1
  exact lv_iinc X.1 X.2.1 d h2 hj rfl (by omega) rfl (fun L' hL' => k H locs L' hR hK hl (za_l.put h1 h3 hL'))
theorem za_iadd (X : za_X C) {x y : Int32} (d : decode C.M.cc pc = .ok (.iadd, 1)) (k : za_w C (pc + 1) ls (.int (x + y) :: st) h cells slots) : za_w C pc ls (.int y :: .int x :: st) h cells slots := fun H locs L hR hK hl hL => lv_iadd X.1 X.2.1 d (k H locs L hR hK hl hL)
theorem za_isub (X : za_X C) {x y : Int32} (d : decode C.M.cc pc = .ok (.isub, 1)) (k : za_w C (pc + 1) ls (.int (x - y) :: st) h cells slots) : za_w C pc ls (.int y :: .int x :: st) h cells slots := fun H locs L hR hK hl hL => lv_isub X.1 X.2.1 d (k H locs L hR hK hl hL)
theorem za_imul (X : za_X C) {x y : Int32} (d : decode C.M.cc pc = .ok (.imul, 1)) (k : za_w C (pc + 1) ls (.int (x * y) :: st) h cells slots) : za_w C pc ls (.int y :: .int x :: st) h cells slots := fun H locs L hR hK hl hL => lv_imul X.1 X.2.1 d (k H locs L hR hK hl hL)
theorem za_idiv (X : za_X C) {x y : Int32} (d : decode C.M.cc pc = .ok (.idiv, 1)) (hy : ¬ y = 0) (k : za_w C (pc + 1) ls (.int (x / y) :: st) h cells slots) : za_w C pc ls (.int y :: .int x :: st) h cells slots := fun H locs L hR hK hl hL => lv_idiv X.1 X.2.1 d hy (k H locs L hR hK hl hL)
theorem za_iand (X : za_X C) {x y : Int32} (d : decode C.M.cc pc = .ok (.iand, 1)) (k : za_w C (pc + 1) ls (.int (x &&& y) :: st) h cells slots) : za_w C pc ls (.int y :: .int x :: st) h cells slots := fun H locs L hR hK hl hL => lv_iand X.1 X.2.1 d (k H locs L hR hK hl hL)
theorem za_ior (X : za_X C) {x y : Int32} (d : decode C.M.cc pc = .ok (.ior, 1)) (k : za_w C (pc + 1) ls (.int (x ||| y) :: st) h cells slots) : za_w C pc ls (.int y :: .int x :: st) h cells slots := fun H locs L hR hK hl hL => lv_ior X.1 X.2.1 d (k H locs L hR hK hl hL)
theorem za_ixor (X : za_X C) {x y : Int32} (d : decode C.M.cc pc = .ok (.ixor, 1)) (k : za_w C (pc + 1) ls (.int (x ^^^ y) :: st) h cells slots) : za_w C pc ls (.int y :: .int x :: st) h cells slots := fun H locs L hR hK hl hL => lv_ixor X.1 X.2.1 d (k H locs L hR hK hl hL)
theorem za_ishl (X : za_X C) {x y : Int32} (d : decode C.M.cc pc = .ok (.ishl, 1)) (k : za_w C (pc + 1) ls (.int (x <<< (y &&& 31)) :: st) h cells slots) : za_w C pc ls (.int y :: .int x :: st) h cells slots := fun H locs L hR hK hl hL => lv_ishl X.1 X.2.1 d (k H locs L hR hK hl hL)
theorem za_ishr (X : za_X C) {x y : Int32} (d : decode C.M.cc pc = .ok (.ishr, 1)) (k : za_w C (pc + 1) ls (.int (x >>> (y &&& 31)) :: st) h cells slots) : za_w C pc ls (.int y :: .int x :: st) h cells slots := fun H locs L hR hK hl hL => lv_ishr X.1 X.2.1 d (k H locs L hR hK hl hL)
theorem za_i2l (X : za_X C) {x : Int32} (d : decode C.M.cc pc = .ok (.i2l, 1)) (k : za_w C (pc + 1) ls (.long x.toInt64 :: st) h cells slots) : za_w C pc ls (.int x :: st) h cells slots := fun H locs L hR hK hl hL => lv_i2l X.1 X.2.1 d rfl (k H locs L hR hK hl hL)
theorem za_lcmp (X : za_X C) {x y : Int64} (d : decode C.M.cc pc = .ok (.lcmp, 1)) (k : za_w C (pc + 1) ls (.int (lg_cmp x y) :: st) h cells slots) : za_w C pc ls (.long y :: .long x :: st) h cells slots := fun H locs L hR hK hl hL => W.lcmp X.1 X.2.1 d (k H locs L hR hK hl hL)
theorem za_dup (X : za_X C) {v : Value} (d : decode C.M.cc pc = .ok (.dup, 1)) (hv : v.category = 1) (k : za_w C (pc + 1) ls (v :: v :: st) h cells slots) : za_w C pc ls (v :: st) h cells slots := fun H locs L hR hK hl hL => lv_dup X.1 X.2.1 d hv (k H locs L hR hK hl hL)
theorem za_dup_x1 (X : za_X C) {v w : Value} (d : decode C.M.cc pc = .ok (.dup_x1, 1)) (hv : v.category = 1) (hw : w.category = 1) (k : za_w C (pc + 1) ls (v :: w :: v :: st) h cells slots) : za_w C pc ls (v :: w :: st) h cells slots := fun H locs L hR hK hl hL => lv_dup_x1 X.1 X.2.1 d hv hw (k H locs L hR hK hl hL)
theorem za_dup2 (X : za_X C) {v w : Value} (d : decode C.M.cc pc = .ok (.dup2, 1)) (hv : v.category = 1) (hw : w.category = 1) (k : za_w C (pc + 1) ls (v :: w :: v :: w :: st) h cells slots) : za_w C pc ls (v :: w :: st) h cells slots := fun H locs L hR hK hl hL => lv_dup2_11 X.1 X.2.1 d hv hw (k H locs L hR hK hl hL)
theorem za_pop (X : za_X C) {v : Value} (d : decode C.M.cc pc = .ok (.pop, 1)) (hv : v.category = 1) (k : za_w C (pc + 1) ls st h cells slots) : za_w C pc ls (v :: st) h cells slots := fun H locs L hR hK hl hL => lv_pop X.1 X.2.1 d hv (k H locs L hR hK hl hL)
theorem za_goto (X : za_X C) {off : Int} {tgt : Nat} (d : decode C.M.cc pc = .ok (.goto off, 3)) (ht : (pc : Int) + off = (tgt : Int)) (k : za_w C tgt ls st h cells slots) : za_w C pc ls st h cells slots := fun H locs L hR hK hl hL => lv_goto X.1 X.2.1 d ht (k H locs L hR hK hl hL)
/-- what a comparison of ints says -/
def za_cd (op : ClassFile.Cond) (x y : Int32) : Prop := match op with
  | .eq => x = y
  | .ne => ¬ x = y
  | .lt => x < y
  | .ge => y ≤ x
  | .gt => y < x
  | .le => x ≤ y
theorem za_icmp (X : za_X C) {op : ClassFile.Cond} {x y : Int32} {off : Int} {tgt : Nat} (d : decode C.M.cc pc = .ok (.if_icmp op off, 3)) (ht : (pc : Int) + off = (tgt : Int)) (kt : za_cd op x y → za_w C tgt ls st h cells slots) (kf : ¬ za_cd op x y → za_w C (pc + 3) ls st h cells slots) : za_w C pc ls (.int y :: .int x :: st) h cells slots := fun H locs L hR hK hl hL => by
  cases op
  · exact lv_icmp_eq X.1 X.2.1 d ht (fun z => kt z H locs L hR hK hl hL) (fun z => kf z H locs L hR hK hl hL)
  · exact lv_icmp_ne X.1 X.2.1 d ht (fun z => kt z H locs L hR hK hl hL) (fun z => kf (fun w => w z) H locs L hR hK hl hL)
  · exact lv_icmp_lt X.1 X.2.1 d ht (fun z => kt z H locs L hR hK hl hL) (fun z => kf z H locs L hR hK hl hL)
  · exact lv_icmp_ge X.1 X.2.1 d ht (fun z => kt z H locs L hR hK hl hL) (fun z => kf z H locs L hR hK hl hL)
  · exact lv_icmp_gt X.1 X.2.1 d ht (fun z => kt z H locs L hR hK hl hL) (fun z => kf z H locs L hR hK hl hL)
  · exact lv_icmp_le X.1 X.2.1 d ht (fun z => kt z H locs L hR hK hl hL) (fun z => kf z H locs L hR hK hl hL)
theorem za_ifc (X : za_X C) {op : ClassFile.Cond} {x : Int32} {off : Int} {tgt : Nat} (d : decode C.M.cc pc = .ok (.ifCond op off, 3)) (ht : (pc : Int) + off = (tgt : Int)) (kt : za_cd op x 0 → za_w C tgt ls st h cells slots) (kf : ¬ za_cd op x 0 → za_w C (pc + 3) ls st h cells slots) : za_w C pc ls (.int x :: st) h cells slots := fun H locs L hR hK hl hL => by
  cases op
  · exact lv_if_eq X.1 X.2.1 d ht (fun z => kt z H locs L hR hK hl hL) (fun z => kf z H locs L hR hK hl hL)
  · exact lv_if_ne X.1 X.2.1 d ht (fun z => kt z H locs L hR hK hl hL) (fun z => kf (fun w => w z) H locs L hR hK hl hL)
  · exact lv_if_lt X.1 X.2.1 d ht (fun z => kt z H locs L hR hK hl hL) (fun z => kf z H locs L hR hK hl hL)
  · exact lv_if_ge X.1 X.2.1 d ht (fun z => kt z H locs L hR hK hl hL) (fun z => kf z H locs L hR hK hl hL)
  · exact lv_if_gt X.1 X.2.1 d ht (fun z => kt z H locs L hR hK hl hL) (fun z => kf z H locs L hR hK hl hL)
  · exact lv_if_le X.1 X.2.1 d ht (fun z => kt z H locs L hR hK hl hL) (fun z => kf z H locs L hR hK hl hL)
theorem za_nonnull (X : za_X C) {v : Value} {off : Int} {tgt : Nat} (d : decode C.M.cc pc = .ok (.ifnonnull off, 3)) (ht : (pc : Int) + off = (tgt : Int)) (hv : za_rf v) (kt : ¬ v = .null → za_w C tgt ls st h cells slots) (kf : v = .null → za_w C (pc + 3) ls st h cells slots) : za_w C pc ls (v :: st) h cells slots := fun H locs L hR hK hl hL => by
  rcases hv with rfl | ⟨a, rfl⟩
  · exact lv_ifnonnullN X.1 X.2.1 d (kf rfl H locs L hR hK hl hL)
  · exact lv_ifnonnull X.1 X.2.1 d ht (kt (fun z => by cases z) H locs L hR hK hl hL)
theorem za_acmp_eq (X : za_X C) {v w : Value} {off : Int} {tgt : Nat} (d : decode C.M.cc pc = .ok (.if_acmp .eq off, 3)) (ht : (pc : Int) + off = (tgt : Int)) (hv : za_rf v) (hw : za_rf w) (kt : v = w → za_w C tgt ls st h cells slots) (kf : ¬ v = w → za_w C (pc + 3) ls st h cells slots) : za_w C pc ls (w :: v :: st) h cells slots := fun H locs L hR hK hl hL => by
  have f : ∀ v, za_rf v → ∃ r, v = va_rf r := fun v h => by
    rcases h with rfl | ⟨a, rfl⟩
    · exact ⟨none, rfl⟩
    · exact ⟨some a, rfl⟩
  have inj : ∀ r r' : Option Nat, va_rf r = va_rf r' → r = r' := fun r r' z => by cases r <;> cases r' <;> cases z <;> rfl
  obtain ⟨r, rfl⟩ := f v hv
  obtain ⟨r', rfl⟩ := f w hw
  exact lv_acmp_eq X.1 X.2.1 d ht (fun z => kt (by rw [z]) H locs L hR hK hl hL) (fun z => kf (fun q => z (inj _ _ q)) H locs L hR hK hl hL)
theorem za_acmp_ne (X : za_X C) {v w : Value} {off : Int} {tgt : Nat} (d : decode C.M.cc pc = .ok (.if_acmp .ne off, 3)) (ht : (pc : Int) + off = (tgt : Int)) (hv : za_rf v) (hw : za_rf w) (kt : ¬ v = w → za_w C tgt ls st h cells slots) (kf : v = w → za_w C (pc + 3) ls st h cells slots) : za_w C pc ls (w :: v :: st) h cells slots := fun H locs L hR hK hl hL => by
  have f : ∀ v, za_rf v → ∃ r, v = va_rf r := fun v h => by
    rcases h with rfl | ⟨a, rfl⟩
    · exact ⟨none, rfl⟩
    · exact ⟨some a, rfl⟩
  have inj : ∀ r r' : Option Nat, va_rf r = va_rf r' → r = r' := fun r r' z => by cases r <;> cases r' <;> cases z <;> rfl
  obtain ⟨r, rfl⟩ := f v hv
  obtain ⟨r', rfl⟩ := f w hw
  exact lv_acmp_ne X.1 X.2.1 d ht (fun z => kt (fun q => z (inj _ _ q)) H locs L hR hK hl hL) (fun z => kf (by rw [z]) H locs L hR hK hl hL)
theorem za_tableIn (X : za_X C) {dflt lo hi : Int} {offs : Array Int} {len : Nat} {x : Int32} {off : Int} {tgt : Nat} (d : decode C.M.cc pc = .ok (.tableswitch dflt lo hi offs, len)) (h1 : ¬ x.toInt < lo) (h2 : ¬ hi < x.toInt) (ho : offs[(x.toInt - lo).toNat]? = some off) (ht : (pc : Int) + off = (tgt : Int)) (k : za_w C tgt ls st h cells slots) : za_w C pc ls (.int x :: st) h cells slots := fun H locs L hR hK hl hL => lv_tableIn X.1 X.2.1 d h1 h2 ho ht (k H locs L hR hK hl hL)
theorem za_tableOut (X : za_X C) {dflt lo hi : Int} {offs : Array Int} {len : Nat} {x : Int32} {tgt : Nat} (d : decode C.M.cc pc = .ok (.tableswitch dflt lo hi offs, len)) (h1 : x.toInt < lo ∨ hi < x.toInt) (ht : (pc : Int) + dflt = (tgt : Int)) (k : za_w C tgt ls st h cells slots) : za_w C pc ls (.int x :: st) h cells slots := fun H locs L hR hK hl hL => lv_tableOut X.1 X.2.1 d h1 ht (k H locs L hR hK hl hL)
theorem za_irem (X : za_X C) {x y : Int32} (d : decode C.M.cc pc = .ok (.irem, 1)) (hy : ¬ y = 0) (k : za_w C (pc + 1) ls (.int (x - x / y * y) :: st) h cells slots) : za_w C pc ls (.int y :: .int x :: st) h cells slots := fun H locs L hR hK hl hL => lv_irem X.1 X.2.1 d hy (k H locs L hR hK hl hL)
theorem za_land (X : za_X C) {x y : Int64} (d : decode C.M.cc pc = .ok (.land, 1)) (k : za_w C (pc + 1) ls (.long (x &&& y) :: st) h cells slots) : za_w C pc ls (.long y :: .long x :: st) h cells slots := fun H locs L hR hK hl hL => lv_land X.1 X.2.1 d (k H locs L hR hK hl hL)
theorem za_lor (X : za_X C) {x y : Int64} (d : decode C.M.cc pc = .ok (.lor, 1)) (k : za_w C (pc + 1) ls (.long (x ||| y) :: st) h cells slots) : za_w C pc ls (.long y :: .long x :: st) h cells slots := fun H locs L hR hK hl hL => lv_lor X.1 X.2.1 d (k H locs L hR hK hl hL)
theorem za_lshl (X : za_X C) {x : Int64} {y : Int32} (d : decode C.M.cc pc = .ok (.lshl, 1)) (k : za_w C (pc + 1) ls (.long (x <<< (y.toInt64 &&& 63)) :: st) h cells slots) : za_w C pc ls (.int y :: .long x :: st) h cells slots := fun H locs L hR hK hl hL => lv_lshl X.1 X.2.1 d rfl (k H locs L hR hK hl hL)
theorem za_lshr (X : za_X C) {x : Int64} {y : Int32} (d : decode C.M.cc pc = .ok (.lshr, 1)) (k : za_w C (pc + 1) ls (.long (x >>> (y.toInt64 &&& 63)) :: st) h cells slots) : za_w C pc ls (.int y :: .long x :: st) h cells slots := fun H locs L hR hK hl hL => lv_lshr X.1 X.2.1 d rfl (k H locs L hR hK hl hL)
theorem za_lload_n (X : za_X C) {n : Fin 4} {x : Int64} (d : decode C.M.cc pc = .ok (.lload_n n, 1)) (hi : ls[(n : Nat)]? = some (some (.long x))) (hc : ls[(n : Nat) + 1]? = some none) (k : za_w C (pc + 1) ls (.long x :: st) h cells slots) : za_w C pc ls st h cells slots := fun H locs L hR hK hl hL => lv_lload_n X.1 X.2.1 d rfl (hL.at hi (Or.inr hc)) (k H locs L hR hK hl hL)
theorem za_lload (X : za_X C) {i : Nat} {x : Int64} (d : decode C.M.cc pc = .ok (.lload i, 2)) (hi : ls[i]? = some (some (.long x))) (hc : ls[i + 1]? = some none) (k : za_w C (pc + 2) ls (.long x :: st) h cells slots) : za_w C pc ls st h cells slots := fun H locs L hR hK hl hL => lv_lload X.1 X.2.1 d (hL.at hi (Or.inr hc)) (k H locs L hR hK hl hL)
theorem za_lstore (X : za_X C) {i : Nat} {x : Int64} (d : decode C.M.cc pc = .ok (.lstore i, 2)) (hi : i + 1 < ls.length) (k : za_w C (pc + 2) ((ls.set i (some (.long x))).set (i + 1) none) st h cells slots) : za_w C pc ls (.long x :: st) h cells slots := fun H locs L hR hK hl hL => by
  obtain ⟨h1, A, h2, h3⟩ := hL
  exact lv_lstore X.1 X.2.1 d h2 (by omega) rfl (fun L' hL' => k H locs L' hR hK hl (za_l.put2 h1 h3 hL'))
end ZB
