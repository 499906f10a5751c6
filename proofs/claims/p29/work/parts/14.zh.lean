/-! THE PLAIN LAYER (8): the rows by which simp walks a fragment: no continuation is looked into before its turn -/
def za_lv : za_L → Nat → Value
  | [], _ => .retAddr 0
  | none :: _, 0 => .retAddr 0
  | some v :: _, 0 => v
  | _ :: t, n + 1 => za_lv t n
theorem za_lv_0 (v : Value) (t : za_L) : za_lv (some v :: t) 0 = v := rfl
theorem za_lv_s (x : Option Value) (t : za_L) (n : Nat) : za_lv (x :: t) (n + 1) = za_lv t n := by cases x <;> rfl
theorem za_lv_at : ∀ (ls : za_L) (k : Nat), (∃ v, ls[k]? = some (some v) ∧ za_lv ls k = v) ∨ ((∀ v, ls[k]? ≠ some (some v)) ∧ za_lv ls k = .retAddr 0)
  | [], k => Or.inr ⟨fun v h => (by cases h), rfl⟩
  | none :: t, 0 => Or.inr ⟨fun v h => (by cases h), rfl⟩
  | some v :: t, 0 => Or.inl ⟨v, rfl, rfl⟩
  | x :: t, n + 1 => by
    rw [za_lv_s]
    simpa using za_lv_at t n
def za_isI (v : Value) : Prop := match v with
  | .int _ => True
  | _ => False
theorem za_isI_i (x : Int32) : za_isI (.int x) = True := rfl
theorem za_rf_r (a : Nat) : za_rf (.ref a) = True := eq_true (Or.inr ⟨a, rfl⟩)
theorem za_rf_n : za_rf .null = True := eq_true (Or.inl rfl)
theorem za_rf_v (r : Option Nat) : za_rf (va_rf r) = True := by
  cases r with
  | none => exact za_rf_n
  | some a => exact za_rf_r a
def za_ck (e : Option za_E) : Option Nat := match e with
  | some (.inr o) => some o.1
  | _ => none
theorem za_ck_r (ci : Nat) (fs : List Value) : za_ck (some (.inr (ci, fs))) = some ci := rfl
theorem za_isC_eq (h : za_H) (b ci : Nat) : za_isC h b ci = (za_ck (h b) = some ci) := propext ⟨fun ⟨fs, q⟩ => by rw [q]; rfl, fun q => by
  unfold za_ck at q
  split at q
  · rename_i o ho
    cases q
    exact ⟨o.2, ho⟩
  · cases q⟩
def za_d (G : za_G) (cc : ByteArray) (ret : Option FieldType) (hh : List (Nat × Nat × Nat × Nat)) (hx : List Nat) (ini : Bool) (fr : Nat) (lk : za_LK) (mc ms : Nat) (K : za_O → za_H → Prop) (nx : za_N) (r : Except DecodeError (Instr × Nat)) (pc : Nat) (ls : za_L) (st : List Value) (h : za_H) (c s : Nat) : Prop := match r with
  | .ok (i, len) => za_s G cc ret hh hx ini fr lk mc ms K nx i len pc ls st h c s
  | _ => False
section ZH
variable {G : za_G} {cc : ByteArray} {ret : Option FieldType} {hh : List (Nat × Nat × Nat × Nat)} {hx : List Nat} {ini : Bool} {fr : Nat} {lk : za_LK} {mc ms : Nat} {K : za_O → za_H → Prop} {nx w : za_N} {cuts : Nat → Bool} {n pc : Nat} {ls : za_L} {st : List Value} {h : za_H} {c s : Nat}
theorem zs_f : za_f G cc ret hh hx ini fr lk mc ms K cuts w (n + 1) pc ls st h c s = za_d G cc ret hh hx ini fr lk mc ms K (za_go G cc ret hh hx ini fr lk mc ms K cuts w n) (decode cc pc) pc ls st h c s := rfl
theorem zs_d {i : Instr} {len : Nat} : za_d G cc ret hh hx ini fr lk mc ms K nx (.ok (i, len)) pc ls st h c s = za_s G cc ret hh hx ini fr lk mc ms K nx i len pc ls st h c s := rfl
theorem zs_iconst {k : Int} : za_s G cc ret hh hx ini fr lk mc ms K nx (.iconst k) 1 pc ls st h c s = (nx (pc + 1) ls (.int (Int32.ofInt k) :: st) h c s) := propext ⟨fun q => q.2, fun q => ⟨rfl, q⟩⟩
theorem zs_bipush {k : Int} : za_s G cc ret hh hx ini fr lk mc ms K nx (.bipush k) 2 pc ls st h c s = (nx (pc + 2) ls (.int (Int8.ofInt k).toInt32 :: st) h c s) := propext ⟨fun q => q.2, fun q => ⟨rfl, q⟩⟩
theorem zs_sipush {k : Int} : za_s G cc ret hh hx ini fr lk mc ms K nx (.sipush k) 3 pc ls st h c s = (nx (pc + 3) ls (.int (Int16.ofInt k).toInt32 :: st) h c s) := propext ⟨fun q => q.2, fun q => ⟨rfl, q⟩⟩
theorem zs_lconst {k : Fin 2} : za_s G cc ret hh hx ini fr lk mc ms K nx (.lconst k) 1 pc ls st h c s = (nx (pc + 1) ls (.long (Int64.ofNat (k : Nat)) :: st) h c s) := propext ⟨fun q => q.2, fun q => ⟨rfl, q⟩⟩
theorem zs_null  : za_s G cc ret hh hx ini fr lk mc ms K nx .aconst_null 1 pc ls st h c s = (nx (pc + 1) ls (.null :: st) h c s) := propext ⟨fun q => q.2, fun q => ⟨rfl, q⟩⟩
theorem zs_iload_n {k : Fin 4} : za_s G cc ret hh hx ini fr lk mc ms K nx (.iload_n k) 1 pc ls st h c s = (za_isI (za_lv ls (za_fn k)) ∧ nx (pc + 1) ls (za_lv ls (za_fn k) :: st) h c s) := by
  refine propext ⟨fun q => ?_, fun q => ⟨rfl, ?_⟩⟩
  · obtain ⟨-, q⟩ := q
    rcases za_lv_at ls (za_fn k) with ⟨v, e1, e2⟩ | ⟨e1, e2⟩
    · rw [e1] at q; rw [e2]
      cases v <;> first | exact ⟨trivial, q⟩ | exact q.elim
    · split at q
      · rename_i hq; exact absurd hq (e1 _)
      · exact q.elim
  · rcases za_lv_at ls (za_fn k) with ⟨v, e1, e2⟩ | ⟨e1, e2⟩
    · rw [e1]; rw [e2] at q
      cases v <;> first | exact q.2 | exact q.1.elim
    · rw [e2] at q; exact q.1.elim
theorem zs_iload {k : Nat} : za_s G cc ret hh hx ini fr lk mc ms K nx (.iload k) 2 pc ls st h c s = (za_isI (za_lv ls k) ∧ nx (pc + 2) ls (za_lv ls k :: st) h c s) := by
  refine propext ⟨fun q => ?_, fun q => ⟨rfl, ?_⟩⟩
  · obtain ⟨-, q⟩ := q
    rcases za_lv_at ls k with ⟨v, e1, e2⟩ | ⟨e1, e2⟩
    · rw [e1] at q; rw [e2]
      cases v <;> first | exact ⟨trivial, q⟩ | exact q.elim
    · split at q
      · rename_i hq; exact absurd hq (e1 _)
      · exact q.elim
  · rcases za_lv_at ls k with ⟨v, e1, e2⟩ | ⟨e1, e2⟩
    · rw [e1]; rw [e2] at q
      cases v <;> first | exact q.2 | exact q.1.elim
    · rw [e2] at q; exact q.1.elim
theorem zs_aload_n {k : Fin 4} : za_s G cc ret hh hx ini fr lk mc ms K nx (.aload_n k) 1 pc ls st h c s = (za_rf (za_lv ls (za_fn k)) ∧ nx (pc + 1) ls (za_lv ls (za_fn k) :: st) h c s) := by
  refine propext ⟨fun q => ?_, fun q => ⟨rfl, ?_⟩⟩
  · obtain ⟨-, q⟩ := q
    rcases za_lv_at ls (za_fn k) with ⟨v, e1, e2⟩ | ⟨e1, e2⟩
    · rw [e1] at q; rw [e2]; exact q
    · split at q
      · rename_i hq; exact absurd hq (e1 _)
      · exact q.elim
  · rcases za_lv_at ls (za_fn k) with ⟨v, e1, e2⟩ | ⟨e1, e2⟩
    · rw [e1]; rw [e2] at q; exact q
    · rw [e2] at q
      rcases q.1 with z | ⟨a, z⟩ <;> cases z
theorem zs_aload {k : Nat} : za_s G cc ret hh hx ini fr lk mc ms K nx (.aload k) 2 pc ls st h c s = (za_rf (za_lv ls k) ∧ nx (pc + 2) ls (za_lv ls k :: st) h c s) := by
  refine propext ⟨fun q => ?_, fun q => ⟨rfl, ?_⟩⟩
  · obtain ⟨-, q⟩ := q
    rcases za_lv_at ls k with ⟨v, e1, e2⟩ | ⟨e1, e2⟩
    · rw [e1] at q; rw [e2]; exact q
    · split at q
      · rename_i hq; exact absurd hq (e1 _)
      · exact q.elim
  · rcases za_lv_at ls k with ⟨v, e1, e2⟩ | ⟨e1, e2⟩
    · rw [e1]; rw [e2] at q; exact q
    · rw [e2] at q
      rcases q.1 with z | ⟨a, z⟩ <;> cases z
/-- what an int on the stack is -/
def za_iv (v : Value) : Int32 := match v with
  | .int x => x
  | _ => 0
theorem za_iv_i (x : Int32) : za_iv (.int x) = x := rfl
theorem zs_iinc {k : Nat} {j : Int} : za_s G cc ret hh hx ini fr lk mc ms K nx (.iinc k j) 3 pc ls st h c s = (za_isI (za_lv ls k) ∧ nx (pc + 3) (ls.set k (some (.int (za_iv (za_lv ls k) + Int32.ofInt j)))) st h c s) := by
  refine propext ⟨fun q => ?_, fun q => ⟨rfl, ?_⟩⟩
  · obtain ⟨-, q⟩ := q
    rcases za_lv_at ls k with ⟨v, e1, e2⟩ | ⟨e1, e2⟩
    · rw [e1] at q; rw [e2]
      cases v <;> first | exact ⟨trivial, q⟩ | exact q.elim
    · split at q
      · rename_i hq; exact absurd hq (e1 _)
      · exact q.elim
  · rcases za_lv_at ls k with ⟨v, e1, e2⟩ | ⟨e1, e2⟩
    · rw [e1]; rw [e2] at q
      cases v <;> first | exact q.2 | exact q.1.elim
    · rw [e2] at q; exact q.1.elim
theorem zs_istore_n {k : Fin 4} {x : Int32} : za_s G cc ret hh hx ini fr lk mc ms K nx (.istore_n k) 1 pc ls (.int x :: st) h c s = ((za_fn k) < ls.length ∧ nx (pc + 1) (ls.set (za_fn k) (some (.int x))) st h c s) := propext ⟨fun q => q.2, fun q => ⟨rfl, q⟩⟩
theorem zs_istore {k : Nat} {x : Int32} : za_s G cc ret hh hx ini fr lk mc ms K nx (.istore k) 2 pc ls (.int x :: st) h c s = (k < ls.length ∧ nx (pc + 2) (ls.set k (some (.int x))) st h c s) := propext ⟨fun q => q.2, fun q => ⟨rfl, q⟩⟩
theorem zs_astore_n {k : Fin 4} {v : Value} : za_s G cc ret hh hx ini fr lk mc ms K nx (.astore_n k) 1 pc ls (v :: st) h c s = (za_rf v ∧ (za_fn k) < ls.length ∧ nx (pc + 1) (ls.set (za_fn k) (some v)) st h c s) := propext ⟨fun q => q.2, fun q => ⟨rfl, q⟩⟩
theorem zs_astore {k : Nat} {v : Value} : za_s G cc ret hh hx ini fr lk mc ms K nx (.astore k) 2 pc ls (v :: st) h c s = (za_rf v ∧ k < ls.length ∧ nx (pc + 2) (ls.set k (some v)) st h c s) := propext ⟨fun q => q.2, fun q => ⟨rfl, q⟩⟩
theorem zs_iadd {x y : Int32} : za_s G cc ret hh hx ini fr lk mc ms K nx .iadd 1 pc ls (.int y :: .int x :: st) h c s = (nx (pc + 1) ls (.int (x + y) :: st) h c s) := propext ⟨fun q => q.2, fun q => ⟨rfl, q⟩⟩
theorem zs_isub {x y : Int32} : za_s G cc ret hh hx ini fr lk mc ms K nx .isub 1 pc ls (.int y :: .int x :: st) h c s = (nx (pc + 1) ls (.int (x - y) :: st) h c s) := propext ⟨fun q => q.2, fun q => ⟨rfl, q⟩⟩
theorem zs_imul {x y : Int32} : za_s G cc ret hh hx ini fr lk mc ms K nx .imul 1 pc ls (.int y :: .int x :: st) h c s = (nx (pc + 1) ls (.int (x * y) :: st) h c s) := propext ⟨fun q => q.2, fun q => ⟨rfl, q⟩⟩
theorem zs_iand {x y : Int32} : za_s G cc ret hh hx ini fr lk mc ms K nx .iand 1 pc ls (.int y :: .int x :: st) h c s = (nx (pc + 1) ls (.int (x &&& y) :: st) h c s) := propext ⟨fun q => q.2, fun q => ⟨rfl, q⟩⟩
theorem zs_ior {x y : Int32} : za_s G cc ret hh hx ini fr lk mc ms K nx .ior 1 pc ls (.int y :: .int x :: st) h c s = (nx (pc + 1) ls (.int (x ||| y) :: st) h c s) := propext ⟨fun q => q.2, fun q => ⟨rfl, q⟩⟩
theorem zs_ixor {x y : Int32} : za_s G cc ret hh hx ini fr lk mc ms K nx .ixor 1 pc ls (.int y :: .int x :: st) h c s = (nx (pc + 1) ls (.int (x ^^^ y) :: st) h c s) := propext ⟨fun q => q.2, fun q => ⟨rfl, q⟩⟩
theorem zs_ishl {x y : Int32} : za_s G cc ret hh hx ini fr lk mc ms K nx .ishl 1 pc ls (.int y :: .int x :: st) h c s = (nx (pc + 1) ls (.int (x <<< (y &&& 31)) :: st) h c s) := propext ⟨fun q => q.2, fun q => ⟨rfl, q⟩⟩
theorem zs_ishr {x y : Int32} : za_s G cc ret hh hx ini fr lk mc ms K nx .ishr 1 pc ls (.int y :: .int x :: st) h c s = (nx (pc + 1) ls (.int (x >>> (y &&& 31)) :: st) h c s) := propext ⟨fun q => q.2, fun q => ⟨rfl, q⟩⟩
theorem zs_idiv {x y : Int32} : za_s G cc ret hh hx ini fr lk mc ms K nx .idiv 1 pc ls (.int y :: .int x :: st) h c s = (¬ y = nI 0 ∧ nx (pc + 1) ls (.int (x / y) :: st) h c s) := propext ⟨fun q => q.2, fun q => ⟨rfl, q⟩⟩
theorem zs_irem {x y : Int32} : za_s G cc ret hh hx ini fr lk mc ms K nx .irem 1 pc ls (.int y :: .int x :: st) h c s = (¬ y = nI 0 ∧ nx (pc + 1) ls (.int (x - x / y * y) :: st) h c s) := propext ⟨fun q => q.2, fun q => ⟨rfl, q⟩⟩
theorem zs_lshl {x : Int64} {y : Int32} : za_s G cc ret hh hx ini fr lk mc ms K nx .lshl 1 pc ls (.int y :: .long x :: st) h c s = (nx (pc + 1) ls (.long (x <<< (y.toInt64 &&& 63)) :: st) h c s) := propext ⟨fun q => q.2, fun q => ⟨rfl, q⟩⟩
theorem zs_lshr {x : Int64} {y : Int32} : za_s G cc ret hh hx ini fr lk mc ms K nx .lshr 1 pc ls (.int y :: .long x :: st) h c s = (nx (pc + 1) ls (.long (x >>> (y.toInt64 &&& 63)) :: st) h c s) := propext ⟨fun q => q.2, fun q => ⟨rfl, q⟩⟩
theorem zs_land {x y : Int64} : za_s G cc ret hh hx ini fr lk mc ms K nx .land 1 pc ls (.long y :: .long x :: st) h c s = (nx (pc + 1) ls (.long (x &&& y) :: st) h c s) := propext ⟨fun q => q.2, fun q => ⟨rfl, q⟩⟩
theorem zs_lor {x y : Int64} : za_s G cc ret hh hx ini fr lk mc ms K nx .lor 1 pc ls (.long y :: .long x :: st) h c s = (nx (pc + 1) ls (.long (x ||| y) :: st) h c s) := propext ⟨fun q => q.2, fun q => ⟨rfl, q⟩⟩
theorem zs_lstore {k : Nat} {x : Int64} : za_s G cc ret hh hx ini fr lk mc ms K nx (.lstore k) 2 pc ls (.long x :: st) h c s = (k + 1 < ls.length ∧ nx (pc + 2) ((ls.set k (some (.long x))).set (k + 1) none) st h c s) := propext ⟨fun q => q.2, fun q => ⟨rfl, q⟩⟩
/-- a long's place in the locals -/
def za_lg (ls : za_L) (k : Nat) : Option Int64 := match ls[k]?, ls[k + 1]? with
  | some (some (.long x)), some none => some x
  | _, _ => none
theorem za_lg_0 (x : Int64) (t : za_L) : za_lg (some (.long x) :: none :: t) 0 = some x := rfl
theorem za_lg_s (v : Option Value) (t : za_L) (n : Nat) : za_lg (v :: t) (n + 1) = za_lg t n := rfl
def za_ll (nx : za_N) (pc : Nat) (ls : za_L) (st : List Value) (h : za_H) (c s : Nat) (o : Option Int64) : Prop := match o with
  | some x => nx pc ls (.long x :: st) h c s
  | none => False
theorem za_ll_s {x : Int64} : za_ll nx pc ls st h c s (some x) = nx pc ls (.long x :: st) h c s := rfl
def za_lc (nx : za_N) (pc : Nat) (ls : za_L) (st : List Value) (h : za_H) (c s : Nat) (o : Option Int32) : Prop := match o with
  | some x => nx (pc + 2) ls (.int x :: st) h c s
  | none => False
theorem za_lc_s {x : Int32} : za_lc nx pc ls st h c s (some x) = nx (pc + 2) ls (.int x :: st) h c s := rfl
theorem zs_lload_n {k : Fin 4} : za_s G cc ret hh hx ini fr lk mc ms K nx (.lload_n k) 1 pc ls st h c s = (za_ll nx (pc + 1) ls st h c s (za_lg ls (za_fn k))) := by
  refine propext ⟨fun q => ?_, fun q => ⟨rfl, ?_⟩⟩
  · obtain ⟨-, q⟩ := q
    unfold za_lg
    split at q
    · rename_i e1 e2
      rw [e1, e2]
      exact q
    · exact q.elim
  · unfold za_lg at q
    split at q
    · rename_i e1 e2
      rw [e1, e2]
      exact q
    · exact q.elim
theorem zs_lload {k : Nat} : za_s G cc ret hh hx ini fr lk mc ms K nx (.lload k) 2 pc ls st h c s = (za_ll nx (pc + 2) ls st h c s (za_lg ls k)) := by
  refine propext ⟨fun q => ?_, fun q => ⟨rfl, ?_⟩⟩
  · obtain ⟨-, q⟩ := q
    unfold za_lg
    split at q
    · rename_i e1 e2
      rw [e1, e2]
      exact q
    · exact q.elim
  · unfold za_lg at q
    split at q
    · rename_i e1 e2
      rw [e1, e2]
      exact q
    · exact q.elim
theorem zs_ldc {idx : Nat} : za_s G cc ret hh hx ini fr lk mc ms K nx (.ldc idx) 2 pc ls st h c s = (za_lc nx pc ls st h c s (lk.cn idx)) := propext ⟨fun q => q.2, fun q => ⟨rfl, q⟩⟩
theorem zs_i2l {x : Int32} : za_s G cc ret hh hx ini fr lk mc ms K nx .i2l 1 pc ls (.int x :: st) h c s = (nx (pc + 1) ls (.long x.toInt64 :: st) h c s) := propext ⟨fun q => q.2, fun q => ⟨rfl, q⟩⟩
theorem zs_lcmp {x y : Int64} : za_s G cc ret hh hx ini fr lk mc ms K nx .lcmp 1 pc ls (.long y :: .long x :: st) h c s = (nx (pc + 1) ls (.int (lg_cmp x y) :: st) h c s) := propext ⟨fun q => q.2, fun q => ⟨rfl, q⟩⟩
theorem zs_dup {v : Value} : za_s G cc ret hh hx ini fr lk mc ms K nx .dup 1 pc ls (v :: st) h c s = (v.category = 1 ∧ nx (pc + 1) ls (v :: v :: st) h c s) := propext ⟨fun q => q.2, fun q => ⟨rfl, q⟩⟩
theorem zs_dup_x1 {v w : Value} : za_s G cc ret hh hx ini fr lk mc ms K nx .dup_x1 1 pc ls (v :: w :: st) h c s = (v.category = 1 ∧ w.category = 1 ∧ nx (pc + 1) ls (v :: w :: v :: st) h c s) := propext ⟨fun q => q.2, fun q => ⟨rfl, q⟩⟩
theorem zs_dup2 {v w : Value} : za_s G cc ret hh hx ini fr lk mc ms K nx .dup2 1 pc ls (v :: w :: st) h c s = (v.category = 1 ∧ w.category = 1 ∧ nx (pc + 1) ls (v :: w :: v :: w :: st) h c s) := propext ⟨fun q => q.2, fun q => ⟨rfl, q⟩⟩
theorem zs_pop {v : Value} : za_s G cc ret hh hx ini fr lk mc ms K nx .pop 1 pc ls (v :: st) h c s = (v.category = 1 ∧ nx (pc + 1) ls st h c s) := propext ⟨fun q => q.2, fun q => ⟨rfl, q⟩⟩
def za_t (pc : Nat) (off : Int) : Nat := ((pc : Int) + off).toNat
theorem za_t_p {pc k : Nat} : za_t pc (OfNat.ofNat k : Int) = pc + k := by unfold za_t; exact (show ((pc : Int) + (k : Int)).toNat = _ by omega)
theorem za_t_n {pc k : Nat} : za_t pc (-(OfNat.ofNat k : Int)) = pc - k := by unfold za_t; exact (show ((pc : Int) + -(k : Int)).toNat = _ by omega)
def za_t0 (pc : Nat) (off : Int) : Prop := 0 ≤ (pc : Int) + off
theorem za_t0_p {pc k : Nat} : za_t0 pc (OfNat.ofNat k : Int) = True := eq_true (show 0 ≤ (pc : Int) + (k : Int) by omega)
theorem za_t0_n {pc k : Nat} : za_t0 pc (-(OfNat.ofNat k : Int)) = (k ≤ pc) := propext (show 0 ≤ (pc : Int) + -(k : Int) ↔ _ by omega)
theorem zs_goto {off : Int} : za_s G cc ret hh hx ini fr lk mc ms K nx (.goto off) 3 pc ls st h c s = (za_t0 pc off ∧ nx (za_t pc off) ls st h c s) := propext ⟨fun q => q.2, fun q => ⟨rfl, q⟩⟩
theorem zs_icmp {op : ClassFile.Cond} {off : Int} {x y : Int32} : za_s G cc ret hh hx ini fr lk mc ms K nx (.if_icmp op off) 3 pc ls (.int y :: .int x :: st) h c s = (za_t0 pc off ∧ (za_cd op x y → nx (za_t pc off) ls st h c s) ∧ (¬ za_cd op x y → nx (pc + 3) ls st h c s)) := propext ⟨fun q => q.2, fun q => ⟨rfl, q⟩⟩
theorem zs_ifc {op : ClassFile.Cond} {off : Int} {x : Int32} : za_s G cc ret hh hx ini fr lk mc ms K nx (.ifCond op off) 3 pc ls (.int x :: st) h c s = (za_t0 pc off ∧ (za_cd op x (nI 0) → nx (za_t pc off) ls st h c s) ∧ (¬ za_cd op x (nI 0) → nx (pc + 3) ls st h c s)) := propext ⟨fun q => q.2, fun q => ⟨rfl, q⟩⟩
theorem zs_nonnull {off : Int} {v : Value} : za_s G cc ret hh hx ini fr lk mc ms K nx (.ifnonnull off) 3 pc ls (v :: st) h c s = (za_rf v ∧ za_t0 pc off ∧ (¬ v = .null → nx (za_t pc off) ls st h c s) ∧ (¬ ¬ v = .null → nx (pc + 3) ls st h c s)) := propext ⟨fun q => q.2, fun q => ⟨rfl, q⟩⟩
theorem zs_acmp_eq {off : Int} {v w : Value} : za_s G cc ret hh hx ini fr lk mc ms K nx (.if_acmp .eq off) 3 pc ls (w :: v :: st) h c s = (za_rf v ∧ za_rf w ∧ za_t0 pc off ∧ (v = w → nx (za_t pc off) ls st h c s) ∧ (¬ v = w → nx (pc + 3) ls st h c s)) := propext ⟨fun q => q.2, fun q => ⟨rfl, q⟩⟩
theorem zs_acmp_ne {off : Int} {v w : Value} : za_s G cc ret hh hx ini fr lk mc ms K nx (.if_acmp .ne off) 3 pc ls (w :: v :: st) h c s = (za_rf v ∧ za_rf w ∧ za_t0 pc off ∧ (¬ v = w → nx (za_t pc off) ls st h c s) ∧ (¬ ¬ v = w → nx (pc + 3) ls st h c s)) := propext ⟨fun q => q.2, fun q => ⟨rfl, q⟩⟩
/-- where a switch goes -/
def za_si (x : Int32) (dflt lo hi : Int) (offs : Array Int) : Option Int := if x.toInt < lo ∨ hi < x.toInt then some dflt else offs[(x.toInt - lo).toNat]?
def za_sw (nx : za_N) (pc : Nat) (ls : za_L) (st : List Value) (h : za_H) (c s : Nat) (o : Option Int) : Prop := match o with
  | some off => za_t0 pc off ∧ nx (za_t pc off) ls st h c s
  | none => False
theorem za_sw_s {off : Int} : za_sw nx pc ls st h c s (some off) = (za_t0 pc off ∧ nx (za_t pc off) ls st h c s) := rfl
theorem zs_switch {dflt lo hi : Int} {offs : Array Int} {len : Nat} {x : Int32} : za_s G cc ret hh hx ini fr lk mc ms K nx (.tableswitch dflt lo hi offs) len pc ls (.int x :: st) h c s = (za_sw nx pc ls st h c s (za_si x dflt lo hi offs)) := by
  unfold za_si
  refine propext ⟨fun q => ?_, fun q => ⟨fun hp => ?_, fun hp => ?_⟩⟩
  · by_cases hp : x.toInt < lo ∨ hi < x.toInt
    · rw [if_pos hp]; exact q.1 hp
    · rw [if_neg hp]
      have q2 := q.2 hp
      split at q2
      · rename_i off ho; rw [ho]; exact q2
      · exact q2.elim
  · rw [if_pos hp] at q; exact q
  · rw [if_neg hp] at q
    split
    · rename_i off ho; rw [ho] at q; exact q
    · rename_i ho; rw [ho] at q; exact q
def za_iaload (nx : za_N) (pc : Nat) (ls : za_L) (st : List Value) (h : za_H) (c s : Nat) (j : Int32) (e : Option za_E) : Prop := match e with
  | some (.inl (.int, n, .inl f)) => vp_in j n ∧ nx (pc + 1) ls (.int (f j.toNatClampNeg) :: st) h c s
  | _ => False
theorem za_iaload_s {n : Nat} {j : Int32} {f : Nat → Int32} : za_iaload nx pc ls st h c s j (some (.inl (.int, n, .inl f))) = (vp_in j n ∧ nx (pc + 1) ls (.int (f j.toNatClampNeg) :: st) h c s) := rfl
theorem zs_iaload {j : Int32} {a : Nat} : za_s G cc ret hh hx ini fr lk mc ms K nx .iaload 1 pc ls (.int j :: .ref a :: st) h c s = (za_iaload nx pc ls st h c s j (h a)) := propext ⟨fun q => q.2, fun q => ⟨rfl, q⟩⟩
def za_baload (nx : za_N) (pc : Nat) (ls : za_L) (st : List Value) (h : za_H) (c s : Nat) (j : Int32) (e : Option za_E) : Prop := match e with
  | some (.inl (.boolean, n, .inl f)) => vp_in j n ∧ nx (pc + 1) ls (.int (f j.toNatClampNeg) :: st) h c s
  | _ => False
theorem za_baload_s {n : Nat} {j : Int32} {f : Nat → Int32} : za_baload nx pc ls st h c s j (some (.inl (.boolean, n, .inl f))) = (vp_in j n ∧ nx (pc + 1) ls (.int (f j.toNatClampNeg) :: st) h c s) := rfl
theorem zs_baload {j : Int32} {a : Nat} : za_s G cc ret hh hx ini fr lk mc ms K nx .baload 1 pc ls (.int j :: .ref a :: st) h c s = (za_baload nx pc ls st h c s j (h a)) := propext ⟨fun q => q.2, fun q => ⟨rfl, q⟩⟩
def za_laload (nx : za_N) (pc : Nat) (ls : za_L) (st : List Value) (h : za_H) (c s : Nat) (j : Int32) (e : Option za_E) : Prop := match e with
  | some (.inl (.long, n, .inr (.inl f))) => vp_in j n ∧ nx (pc + 1) ls (.long (f j.toNatClampNeg) :: st) h c s
  | _ => False
theorem za_laload_s {n : Nat} {j : Int32} {f : Nat → Int64} : za_laload nx pc ls st h c s j (some (.inl (.long, n, .inr (.inl f)))) = (vp_in j n ∧ nx (pc + 1) ls (.long (f j.toNatClampNeg) :: st) h c s) := rfl
theorem zs_laload {j : Int32} {a : Nat} : za_s G cc ret hh hx ini fr lk mc ms K nx .laload 1 pc ls (.int j :: .ref a :: st) h c s = (za_laload nx pc ls st h c s j (h a)) := propext ⟨fun q => q.2, fun q => ⟨rfl, q⟩⟩
def za_aaload (nx : za_N) (pc : Nat) (ls : za_L) (st : List Value) (h : za_H) (c s : Nat) (j : Int32) (e : Option za_E) : Prop := match e with
  | some (.inl (.object _, n, .inr (.inr (.inr (.inr f))))) => vp_in j n ∧ nx (pc + 1) ls (va_rf (f j.toNatClampNeg) :: st) h c s
  | _ => False
theorem za_aaload_s {n : Nat} {j : Int32} {f : Nat → Option Nat} {E : String} : za_aaload nx pc ls st h c s j (some (.inl (.object E, n, .inr (.inr (.inr (.inr f)))))) = (vp_in j n ∧ nx (pc + 1) ls (va_rf (f j.toNatClampNeg) :: st) h c s) := rfl
theorem zs_aaload {j : Int32} {a : Nat} : za_s G cc ret hh hx ini fr lk mc ms K nx .aaload 1 pc ls (.int j :: .ref a :: st) h c s = (za_aaload nx pc ls st h c s j (h a)) := propext ⟨fun q => q.2, fun q => ⟨rfl, q⟩⟩
def za_iastore (nx : za_N) (pc : Nat) (ls : za_L) (st : List Value) (h : za_H) (c s : Nat) (j : Int32) (x : Int32) (a : Nat) (e : Option za_E) : Prop := match e with
  | some (.inl (.int, n, .inl f)) => vp_in j n ∧ nx (pc + 1) ls st (za_up h a (.inl (.int, n, .inl (upd f j.toNatClampNeg x)))) c s
  | _ => False
theorem za_iastore_s {n : Nat} {j : Int32} {x : Int32} {a : Nat} {f : Nat → Int32} : za_iastore nx pc ls st h c s j x a (some (.inl (.int, n, .inl f))) = (vp_in j n ∧ nx (pc + 1) ls st (za_up h a (.inl (.int, n, .inl (upd f j.toNatClampNeg x)))) c s) := rfl
theorem zs_iastore {j : Int32} {x : Int32} {a : Nat} : za_s G cc ret hh hx ini fr lk mc ms K nx .iastore 1 pc ls (.int x :: .int j :: .ref a :: st) h c s = (za_iastore nx pc ls st h c s j x a (h a)) := propext ⟨fun q => q.2, fun q => ⟨rfl, q⟩⟩
def za_bastore (nx : za_N) (pc : Nat) (ls : za_L) (st : List Value) (h : za_H) (c s : Nat) (j : Int32) (x : Int32) (a : Nat) (e : Option za_E) : Prop := match e with
  | some (.inl (.boolean, n, .inl f)) => vp_in j n ∧ (x = nI 0 ∨ x = nI 1) ∧ nx (pc + 1) ls st (za_up h a (.inl (.boolean, n, .inl (upd f j.toNatClampNeg x)))) c s
  | _ => False
theorem za_bastore_s {n : Nat} {j : Int32} {x : Int32} {a : Nat} {f : Nat → Int32} : za_bastore nx pc ls st h c s j x a (some (.inl (.boolean, n, .inl f))) = (vp_in j n ∧ (x = nI 0 ∨ x = nI 1) ∧ nx (pc + 1) ls st (za_up h a (.inl (.boolean, n, .inl (upd f j.toNatClampNeg x)))) c s) := rfl
theorem zs_bastore {j : Int32} {x : Int32} {a : Nat} : za_s G cc ret hh hx ini fr lk mc ms K nx .bastore 1 pc ls (.int x :: .int j :: .ref a :: st) h c s = (za_bastore nx pc ls st h c s j x a (h a)) := propext ⟨fun q => q.2, fun q => ⟨rfl, q⟩⟩
def za_lastore (nx : za_N) (pc : Nat) (ls : za_L) (st : List Value) (h : za_H) (c s : Nat) (j : Int32) (x : Int64) (a : Nat) (e : Option za_E) : Prop := match e with
  | some (.inl (.long, n, .inr (.inl f))) => vp_in j n ∧ nx (pc + 1) ls st (za_up h a (.inl (.long, n, .inr (.inl (vp_updL f j.toNatClampNeg x))))) c s
  | _ => False
theorem za_lastore_s {n : Nat} {j : Int32} {x : Int64} {a : Nat} {f : Nat → Int64} : za_lastore nx pc ls st h c s j x a (some (.inl (.long, n, .inr (.inl f)))) = (vp_in j n ∧ nx (pc + 1) ls st (za_up h a (.inl (.long, n, .inr (.inl (vp_updL f j.toNatClampNeg x))))) c s) := rfl
theorem zs_lastore {j : Int32} {x : Int64} {a : Nat} : za_s G cc ret hh hx ini fr lk mc ms K nx .lastore 1 pc ls (.long x :: .int j :: .ref a :: st) h c s = (za_lastore nx pc ls st h c s j x a (h a)) := propext ⟨fun q => q.2, fun q => ⟨rfl, q⟩⟩
def za_aasN (nx : za_N) (pc : Nat) (ls : za_L) (st : List Value) (h : za_H) (c s : Nat) (j : Int32) (a : Nat) (e : Option za_E) : Prop := match e with
  | some (.inl (.object E, n, .inr (.inr (.inr (.inr f))))) => vp_in j n ∧ nx (pc + 1) ls st (za_up h a (.inl (.object E, n, .inr (.inr (.inr (.inr (va_up f j.toNatClampNeg none))))))) c s
  | _ => False
theorem za_aasN_s {n a : Nat} {j : Int32} {E : String} {f : Nat → Option Nat} : za_aasN nx pc ls st h c s j a (some (.inl (.object E, n, .inr (.inr (.inr (.inr f)))))) = (vp_in j n ∧ nx (pc + 1) ls st (za_up h a (.inl (.object E, n, .inr (.inr (.inr (.inr (va_up f j.toNatClampNeg none))))))) c s) := rfl
theorem zs_aastoreN {j : Int32} {a : Nat} : za_s G cc ret hh hx ini fr lk mc ms K nx .aastore 1 pc ls (.null :: .int j :: .ref a :: st) h c s = (za_aasN nx pc ls st h c s j a (h a)) := propext ⟨fun q => q.2, fun q => ⟨rfl, q⟩⟩
def za_aas (nx : za_N) (pc : Nat) (ls : za_L) (st : List Value) (h : za_H) (c s : Nat) (j : Int32) (v a : Nat) (e : Option za_E) : Prop := match e with
  | some (.inl (.object "java/lang/Object", n, .inr (.inr (.inr (.inr f))))) => vp_in j n ∧ (∃ ci, za_isC h v ci ∧ za_cok ci) ∧ nx (pc + 1) ls st (za_up h a (.inl (.object "java/lang/Object", n, .inr (.inr (.inr (.inr (va_up f j.toNatClampNeg (some v)))))))) c s
  | _ => False
theorem za_aas_s {n a v : Nat} {j : Int32} {f : Nat → Option Nat} : za_aas nx pc ls st h c s j v a (some (.inl (.object "java/lang/Object", n, .inr (.inr (.inr (.inr f)))))) = (vp_in j n ∧ (∃ ci, za_isC h v ci ∧ za_cok ci) ∧ nx (pc + 1) ls st (za_up h a (.inl (.object "java/lang/Object", n, .inr (.inr (.inr (.inr (va_up f j.toNatClampNeg (some v)))))))) c s) := rfl
theorem zs_aastore {j : Int32} {v a : Nat} : za_s G cc ret hh hx ini fr lk mc ms K nx .aastore 1 pc ls (.ref v :: .int j :: .ref a :: st) h c s = (za_aas nx pc ls st h c s j v a (h a)) := propext ⟨fun q => q.2, fun q => ⟨rfl, q⟩⟩
def za_alg (G : za_G) (nx : za_N) (pc : Nat) (ls : za_L) (st : List Value) (h : za_H) (c s : Nat) (a : Nat) (e : Option za_E) : Prop := match e with
  | some (.inl (_, n, _)) => nx (pc + 1) ls (.int (nI n) :: st) h c s
  | _ => a = G.t ∧ nx (pc + 1) ls (.int (nI 0) :: st) h c s
theorem za_alg_s {n a : Nat} {ty : FieldType} {x : (Nat → Int32) ⊕ (Nat → Int64) ⊕ (Nat → UInt32) ⊕ (Nat → UInt64) ⊕ (Nat → Option Nat)} : za_alg G nx pc ls st h c s a (some (.inl (ty, n, x))) = nx (pc + 1) ls (.int (nI n) :: st) h c s := rfl
theorem za_alg_n {a : Nat} : za_alg G nx pc ls st h c s a none = (a = G.t ∧ nx (pc + 1) ls (.int (nI 0) :: st) h c s) := rfl
theorem zs_alen {a : Nat} : za_s G cc ret hh hx ini fr lk mc ms K nx .arraylength 1 pc ls (.ref a :: st) h c s = (za_alg G nx pc ls st h c s a (h a)) := propext ⟨fun q => q.2, fun q => ⟨rfl, q⟩⟩
def za_isV (fs : List Value) (k : Nat) : Prop := k < fs.length
def za_vl (fs : List Value) (k : Nat) : Value := fs.getD k .null
def za_gf (nx : za_N) (pc : Nat) (ls : za_L) (st : List Value) (h : za_H) (c s : Nat) (o : Option (Nat × Nat × FieldType × Nat)) (e : Option za_E) : Prop := match o, e with
  | some (ci, k, _, _), some (.inr (ci', fs)) => ci' = ci ∧ k < fs.length ∧ nx (pc + 3) ls (za_vl fs k :: st) h c s
  | _, _ => False
theorem za_gf_s {ci k ci' fi : Nat} {ty : FieldType} {fs : List Value} : za_gf nx pc ls st h c s (some (ci, k, ty, fi)) (some (.inr (ci', fs))) = (ci' = ci ∧ k < fs.length ∧ nx (pc + 3) ls (za_vl fs k :: st) h c s) := rfl
theorem za_vl_0 (v : Value) (t : List Value) : za_vl (v :: t) 0 = v := rfl
theorem za_vl_s (v : Value) (t : List Value) (k : Nat) : za_vl (v :: t) (k + 1) = za_vl t k := rfl
theorem zs_getfield {idx a : Nat} : za_s G cc ret hh hx ini fr lk mc ms K nx (.getfield idx) 3 pc ls (.ref a :: st) h c s = (za_gf nx pc ls st h c s (lk.fl idx) (h a)) := by
  show (3 = 3 ∧ (match lk.fl idx with
    | some (ci, k, _, _) => (match h a with
      | some (.inr (ci', fs)) => ci' = ci ∧ (match fs[k]? with
        | some v => nx (pc + 3) ls (v :: st) h c s
        | none => False)
      | _ => False)
    | none => False)) = _
  generalize lk.fl idx = o
  generalize h a = e
  rcases o with _ | ⟨ci, k, ty, fi⟩
  · cases e <;> exact propext ⟨fun q => q.2.elim, fun q => q.elim⟩
  · rcases e with _ | (e | ⟨ci', fs⟩)
    · exact propext ⟨fun q => q.2.elim, fun q => q.elim⟩
    · exact propext ⟨fun q => q.2.elim, fun q => q.elim⟩
    · by_cases hk : k < fs.length
      · have e1 : fs[k]? = some (za_vl fs k) := by unfold za_vl; rw [List.getD_eq_getElem?_getD, List.getElem?_eq_getElem hk]; rfl
        refine propext ⟨fun q => ⟨q.2.1, hk, ?_⟩, fun q => ⟨rfl, q.1, ?_⟩⟩
        · have q2 := q.2.2
          rw [e1] at q2
          exact q2
        · show (match fs[k]? with
            | some v => _
            | none => False)
          rw [e1]
          exact q.2.2
      · have e1 : fs[k]? = none := List.getElem?_eq_none (by omega)
        refine propext ⟨fun q => ?_, fun q => absurd q.2.1 hk⟩
        have q2 := q.2.2
        rw [e1] at q2
        exact q2.elim
def za_pf (ini : Bool) (nx : za_N) (pc : Nat) (ls : za_L) (st : List Value) (h : za_H) (c s : Nat) (v : Value) (a : Nat) (o : Option (Nat × Nat × FieldType × Nat)) (e : Option za_E) : Prop := match o, e with
  | some (ci, k, ty, fin), some (.inr (ci', fs)) => ci' = ci ∧ k < fs.length ∧ (fin = 0 ∨ (fin = 1 ∧ ini = true)) ∧ za_fit ty v ∧ nx (pc + 3) ls st (za_up h a (.inr (ci, fs.set k v))) c s
  | _, _ => False
theorem za_pf_s {ci k ci' fin a : Nat} {ty : FieldType} {v : Value} {fs : List Value} : za_pf ini nx pc ls st h c s v a (some (ci, k, ty, fin)) (some (.inr (ci', fs))) = (ci' = ci ∧ k < fs.length ∧ (fin = 0 ∨ (fin = 1 ∧ ini = true)) ∧ za_fit ty v ∧ nx (pc + 3) ls st (za_up h a (.inr (ci, fs.set k v))) c s) := rfl
theorem zs_putfield {idx a : Nat} {v : Value} : za_s G cc ret hh hx ini fr lk mc ms K nx (.putfield idx) 3 pc ls (v :: .ref a :: st) h c s = (za_pf ini nx pc ls st h c s v a (lk.fl idx) (h a)) := by
  show (3 = 3 ∧ (match lk.fl idx with
    | some (ci, k, ty, fin) => (match h a with
      | some (.inr (ci', fs)) => ci' = ci ∧ k < fs.length ∧ (fin = 0 ∨ (fin = 1 ∧ ini = true)) ∧ za_fit ty v ∧ nx (pc + 3) ls st (za_up h a (.inr (ci, fs.set k v))) c s
      | _ => False)
    | none => False)) = _
  generalize lk.fl idx = o
  generalize h a = e
  rcases o with _ | ⟨ci, k, ty, fi⟩
  · cases e <;> exact propext ⟨fun q => q.2.elim, fun q => q.elim⟩
  · rcases e with _ | (e | ⟨ci', fs⟩)
    · exact propext ⟨fun q => q.2.elim, fun q => q.elim⟩
    · exact propext ⟨fun q => q.2.elim, fun q => q.elim⟩
    · exact propext ⟨fun q => q.2, fun q => ⟨rfl, q⟩⟩
def za_nw (G : za_G) (cc : ByteArray) (hh : List (Nat × Nat × Nat × Nat)) (fr : Nat) (lk : za_LK) (mc ms : Nat) (K : za_O → za_H → Prop) (nx : za_N) (pc : Nat) (ls : za_L) (st : List Value) (h : za_H) (c s : Nat) (o : Option (Nat × List Value)) (t : Option (Nat × Nat)) : Prop := match o with
  | some (ci, fs) => c + 1 ≤ mc ∧ s + fs.length ≤ ms ∧ ∀ q, za_nn G h q → nx (pc + 3) ls (.ref q :: st) (za_up h q (.inr (ci, fs))) (c + 1) (s + fs.length)
  | none => match t with
    | some (k, ic) => za_th cc hh fr lk mc ms K k ic pc st h c s
    | none => False
theorem za_nw_s {ci : Nat} {fs : List Value} {t : Option (Nat × Nat)} : za_nw G cc hh fr lk mc ms K nx pc ls st h c s (some (ci, fs)) t = (c + 1 ≤ mc ∧ s + fs.length ≤ ms ∧ ∀ q, za_nn G h q → nx (pc + 3) ls (.ref q :: st) (za_up h q (.inr (ci, fs))) (c + 1) (s + fs.length)) := rfl
theorem za_nw_t {k ic : Nat} : za_nw G cc hh fr lk mc ms K nx pc ls st h c s none (some (k, ic)) = za_th cc hh fr lk mc ms K k ic pc st h c s := rfl
def za_tx (cc : ByteArray) (lk : za_LK) (ic pc : Nat) (r : Except DecodeError (Instr × Nat)) : Prop := match r with
  | .ok (.ldc j, 2) => lk.sx j = true ∧ decode cc (pc + 6) = .ok (.invokespecial ic, 3) ∧ decode cc (pc + 9) = .ok (.athrow, 1)
  | .ok (.ldc_w j, 3) => lk.sx j = true ∧ decode cc (pc + 7) = .ok (.invokespecial ic, 3) ∧ decode cc (pc + 10) = .ok (.athrow, 1)
  | _ => False
theorem za_tx_1 {j ic : Nat} : za_tx cc lk ic pc (.ok (.ldc j, 2)) = (lk.sx j = true ∧ decode cc (pc + 6) = .ok (.invokespecial ic, 3) ∧ decode cc (pc + 9) = .ok (.athrow, 1)) := rfl
theorem za_tx_2 {j ic : Nat} : za_tx cc lk ic pc (.ok (.ldc_w j, 3)) = (lk.sx j = true ∧ decode cc (pc + 7) = .ok (.invokespecial ic, 3) ∧ decode cc (pc + 10) = .ok (.athrow, 1)) := rfl
theorem zs_th {k ic : Nat} : za_th cc hh fr lk mc ms K k ic pc st h c s = (hh = [] ∧ 6 ≤ fr ∧ st.length ≤ 4 ∧ c + 1 ≤ mc ∧ s + 6 ≤ ms ∧ decode cc (pc + 3) = .ok (.dup, 1) ∧ K (.inr k) h ∧ za_tx cc lk ic pc (decode cc (pc + 4))) := rfl
theorem zs_new {idx : Nat} : za_s G cc ret hh hx ini fr lk mc ms K nx (.new idx) 3 pc ls st h c s = (za_nw G cc hh fr lk mc ms K nx pc ls st h c s (lk.nw idx) (lk.th idx)) := propext ⟨fun q => q.2, fun q => ⟨rfl, q⟩⟩
theorem zs_newarray {t : ArrayType} {k : Int32} : za_s G cc ret hh hx ini fr lk mc ms K nx (.newarray t) 2 pc ls (.int k :: st) h c s = (t = .int ∧ ¬ k < 0 ∧ k.toNatClampNeg ≤ 1000000 ∧ c + 1 ≤ mc ∧ s + k.toNatClampNeg ≤ ms ∧ ∀ q, za_nn G h q → nx (pc + 2) ls (.ref q :: st) (za_up h q (za_a0 t k.toNatClampNeg)) (c + 1) (s + k.toNatClampNeg)) := propext ⟨fun q => q.2, fun q => ⟨rfl, q⟩⟩
def za_cx (nx : za_N) (pc : Nat) (ls : za_L) (st : List Value) (h : za_H) (c s : Nat) (a : Nat) (o : Option Nat) : Prop := match o with
  | some ci => za_isC h a ci ∧ nx (pc + 3) ls (.ref a :: st) h c s
  | none => False
theorem za_cx_s {a ci : Nat} : za_cx nx pc ls st h c s a (some ci) = (za_isC h a ci ∧ nx (pc + 3) ls (.ref a :: st) h c s) := rfl
theorem zs_checkcast {idx a : Nat} : za_s G cc ret hh hx ini fr lk mc ms K nx (.checkcast idx) 3 pc ls (.ref a :: st) h c s = (za_cx nx pc ls st h c s a (lk.ck idx)) := propext ⟨fun q => q.2, fun q => ⟨rfl, q⟩⟩
def za_vB (G : za_G) (hh : List (Nat × Nat × Nat × Nat)) (hx : List Nat) (mc ms : Nat) (K : za_O → za_H → Prop) (nx : za_N) (pc : Nat) (ls : za_L) (h : za_H) (c s : Nat) (chk : Nat → Prop) (M : za_M) (as : List Value) (r : List Value) : Prop := match r with
  | .ref b :: rest => chk b ∧ rest.length ≤ 4 ∧ za_cl G hh hx mc ms K nx M (.ref b :: as) pc ls rest h c s
  | _ => False
theorem za_vB_s {chk : Nat → Prop} {M : za_M} {as rest : List Value} {b : Nat} : za_vB G hh hx mc ms K nx pc ls h c s chk M as (.ref b :: rest) = (chk b ∧ rest.length ≤ 4 ∧ za_cl G hh hx mc ms K nx M (.ref b :: as) pc ls rest h c s) := rfl
def za_vA (G : za_G) (hh : List (Nat × Nat × Nat × Nat)) (hx : List Nat) (fr mc ms : Nat) (K : za_O → za_H → Prop) (nx : za_N) (pc : Nat) (ls : za_L) (st : List Value) (h : za_H) (c s : Nat) (o : Option (Nat × Nat × Nat × Nat × za_M)) : Prop := match o with
  | some (0, n, ci, f, M) => f + 1 ≤ fr ∧ za_vB G hh hx mc ms K nx pc ls h c s (fun b => za_isC h b ci) M (st.take n).reverse (st.drop n)
  | _ => False
theorem za_vA_s {n ci f : Nat} {M : za_M} : za_vA G hh hx fr mc ms K nx pc ls st h c s (some (0, n, ci, f, M)) = (f + 1 ≤ fr ∧ za_vB G hh hx mc ms K nx pc ls h c s (fun b => za_isC h b ci) M (st.take n).reverse (st.drop n)) := rfl
def za_sX (nx : za_N) (pc : Nat) (ls : za_L) (h : za_H) (c s : Nat) (st : List Value) : Prop := match st with
  | .int b :: .int a :: rest => rest.length ≤ 4 ∧ nx (pc + 3) ls (.int (za_max a b) :: rest) h c s
  | _ => False
theorem za_sX_s {a b : Int32} {rest : List Value} : za_sX nx pc ls h c s (.int b :: .int a :: rest) = (rest.length ≤ 4 ∧ nx (pc + 3) ls (.int (za_max a b) :: rest) h c s) := rfl
def za_sN (nx : za_N) (pc : Nat) (ls : za_L) (h : za_H) (c s : Nat) (st : List Value) : Prop := match st with
  | .int b :: .int a :: rest => rest.length ≤ 4 ∧ nx (pc + 3) ls (.int (za_min a b) :: rest) h c s
  | _ => False
theorem za_sN_s {a b : Int32} {rest : List Value} : za_sN nx pc ls h c s (.int b :: .int a :: rest) = (rest.length ≤ 4 ∧ nx (pc + 3) ls (.int (za_min a b) :: rest) h c s) := rfl
def za_sA (G : za_G) (hh : List (Nat × Nat × Nat × Nat)) (hx : List Nat) (fr mc ms : Nat) (K : za_O → za_H → Prop) (nx : za_N) (pc : Nat) (ls : za_L) (st : List Value) (h : za_H) (c s : Nat) (o : Option (Nat × Nat × Nat × Nat × za_M)) : Prop := match o with
  | some (1, n, _, f, M) => f + 1 ≤ fr ∧ n ≤ st.length ∧ (st.drop n).length ≤ 4 ∧ za_cl G hh hx mc ms K nx M (st.take n).reverse pc ls (st.drop n) h c s
  | some (3, n, _, f, M) => f + 1 ≤ fr ∧ n ≤ st.length ∧ (st.drop n).length ≤ 4 ∧ za_cl G hh hx mc ms K nx M (st.take n).reverse pc ls (st.drop n) h c s
  | some (5, _, _, _, _) => 1 ≤ fr ∧ c ≤ mc ∧ s ≤ ms ∧ za_sX nx pc ls h c s st
  | some (6, _, _, _, _) => 1 ≤ fr ∧ c ≤ mc ∧ s ≤ ms ∧ za_sN nx pc ls h c s st
  | _ => False
theorem za_sA_5 {n ci f : Nat} {M : za_M} : za_sA G hh hx fr mc ms K nx pc ls st h c s (some (5, n, ci, f, M)) = (1 ≤ fr ∧ c ≤ mc ∧ s ≤ ms ∧ za_sX nx pc ls h c s st) := rfl
theorem za_sA_6 {n ci f : Nat} {M : za_M} : za_sA G hh hx fr mc ms K nx pc ls st h c s (some (6, n, ci, f, M)) = (1 ≤ fr ∧ c ≤ mc ∧ s ≤ ms ∧ za_sN nx pc ls h c s st) := rfl
theorem za_sA_1 {n ci f : Nat} {M : za_M} : za_sA G hh hx fr mc ms K nx pc ls st h c s (some (1, n, ci, f, M)) = (f + 1 ≤ fr ∧ n ≤ st.length ∧ (st.drop n).length ≤ 4 ∧ za_cl G hh hx mc ms K nx M (st.take n).reverse pc ls (st.drop n) h c s) := rfl
theorem za_sA_3 {n ci f : Nat} {M : za_M} : za_sA G hh hx fr mc ms K nx pc ls st h c s (some (3, n, ci, f, M)) = (f + 1 ≤ fr ∧ n ≤ st.length ∧ (st.drop n).length ≤ 4 ∧ za_cl G hh hx mc ms K nx M (st.take n).reverse pc ls (st.drop n) h c s) := rfl
def za_oB (nx : za_N) (pc : Nat) (ls : za_L) (h : za_H) (c s : Nat) (st : List Value) : Prop := match st with
  | .ref _ :: rest => rest.length ≤ 4 ∧ nx (pc + 3) ls rest h c s
  | _ => False
theorem za_oB_s {a : Nat} {rest : List Value} : za_oB nx pc ls h c s (.ref a :: rest) = (rest.length ≤ 4 ∧ nx (pc + 3) ls rest h c s) := rfl
def za_iA (G : za_G) (hh : List (Nat × Nat × Nat × Nat)) (hx : List Nat) (fr mc ms : Nat) (K : za_O → za_H → Prop) (nx : za_N) (pc : Nat) (ls : za_L) (st : List Value) (h : za_H) (c s : Nat) (o : Option (Nat × Nat × Nat × Nat × za_M)) : Prop := match o with
  | some (2, n, _, f, M) => f + 1 ≤ fr ∧ za_vB G hh hx mc ms K nx pc ls h c s (fun _ => True) M (st.take n).reverse (st.drop n)
  | some (4, _, _, _, _) => 1 ≤ fr ∧ za_oB nx pc ls h c s st
  | _ => False
theorem za_iA_2 {n ci f : Nat} {M : za_M} : za_iA G hh hx fr mc ms K nx pc ls st h c s (some (2, n, ci, f, M)) = (f + 1 ≤ fr ∧ za_vB G hh hx mc ms K nx pc ls h c s (fun _ => True) M (st.take n).reverse (st.drop n)) := rfl
theorem za_iA_4 {n ci f : Nat} {M : za_M} : za_iA G hh hx fr mc ms K nx pc ls st h c s (some (4, n, ci, f, M)) = (1 ≤ fr ∧ za_oB nx pc ls h c s st) := rfl
theorem zs_invokevirtual {idx : Nat} : za_s G cc ret hh hx ini fr lk mc ms K nx (.invokevirtual idx) 3 pc ls st h c s = (za_vA G hh hx fr mc ms K nx pc ls st h c s (lk.mt idx)) := by
  show (3 = 3 ∧ _) = _
  generalize lk.mt idx = o
  rcases o with _ | ⟨kd, n, ci, f, M⟩
  · exact propext ⟨fun q => q.2.elim, fun q => q.elim⟩
  · cases kd with
    | succ kd => exact propext ⟨fun q => q.2.elim, fun q => q.elim⟩
    | zero =>
      show (3 = 3 ∧ f + 1 ≤ fr ∧ _) = (f + 1 ≤ fr ∧ za_vB G hh hx mc ms K nx pc ls h c s (fun b => za_isC h b ci) M (st.take n).reverse (st.drop n))
      generalize st.drop n = r
      rcases r with _ | ⟨v, r⟩
      · exact propext ⟨fun q => q.2.2.elim, fun q => q.2.elim⟩
      · cases v <;> first | exact propext ⟨fun q => q.2, fun q => ⟨rfl, q⟩⟩ | exact propext ⟨fun q => q.2.2.elim, fun q => q.2.elim⟩
theorem zs_invokestatic {idx : Nat} : za_s G cc ret hh hx ini fr lk mc ms K nx (.invokestatic idx) 3 pc ls st h c s = (za_sA G hh hx fr mc ms K nx pc ls st h c s (lk.mt idx)) := by
  show (3 = 3 ∧ _) = _
  generalize lk.mt idx = o
  rcases o with _ | ⟨kd, n, ci, f, M⟩
  · exact propext ⟨fun q => q.2.elim, fun q => q.elim⟩
  · rcases kd with _ | _ | _ | _ | _ | _ | _ | kd <;> first | exact propext ⟨fun q => q.2, fun q => ⟨rfl, q⟩⟩ | exact propext ⟨fun q => q.2.elim, fun q => q.elim⟩
theorem zs_invokespecial {idx : Nat} : za_s G cc ret hh hx ini fr lk mc ms K nx (.invokespecial idx) 3 pc ls st h c s = (za_iA G hh hx fr mc ms K nx pc ls st h c s (lk.mt idx)) := by
  show (3 = 3 ∧ _) = _
  generalize lk.mt idx = o
  rcases o with _ | ⟨kd, n, ci, f, M⟩
  · exact propext ⟨fun q => q.2.elim, fun q => q.elim⟩
  · rcases kd with _ | _ | _ | _ | _ | kd
    · exact propext ⟨fun q => q.2.elim, fun q => q.elim⟩
    · exact propext ⟨fun q => q.2.elim, fun q => q.elim⟩
    · show (3 = 3 ∧ f + 1 ≤ fr ∧ _) = (f + 1 ≤ fr ∧ za_vB G hh hx mc ms K nx pc ls h c s (fun _ => True) M (st.take n).reverse (st.drop n))
      generalize st.drop n = r
      rcases r with _ | ⟨v, r⟩
      · exact propext ⟨fun q => q.2.2.elim, fun q => q.2.elim⟩
      · cases v <;> first | exact propext ⟨fun q => ⟨q.2.1, trivial, q.2.2⟩, fun q => ⟨rfl, q.1, q.2.2⟩⟩ | exact propext ⟨fun q => q.2.2.elim, fun q => q.2.elim⟩
    · exact propext ⟨fun q => q.2.elim, fun q => q.elim⟩
    · rcases st with _ | ⟨v, st⟩
      · exact propext ⟨fun q => q.2.2.elim, fun q => q.2.elim⟩
      · cases v <;> first | exact propext ⟨fun q => q.2, fun q => ⟨rfl, q⟩⟩ | exact propext ⟨fun q => q.2.2.elim, fun q => q.2.elim⟩
    · exact propext ⟨fun q => q.2.elim, fun q => q.elim⟩
theorem zs_ireturn {v : Int32} {ty : FieldType} : za_s G cc (some ty) hh hx ini fr lk mc ms K nx .ireturn 1 pc ls [.int v] h c s = (narrow ty (.int v) = .int v ∧ c ≤ mc ∧ s ≤ ms ∧ K (.inl (some (.int v))) h) := propext ⟨fun q => q.2, fun q => ⟨rfl, q⟩⟩
theorem zs_return : za_s G cc none hh hx ini fr lk mc ms K nx .return_ 1 pc ls [] h c s = (c ≤ mc ∧ s ≤ ms ∧ K (.inl none) h) := propext ⟨fun q => q.2.2, fun q => ⟨rfl, rfl, q⟩⟩
theorem zs_areturn {v : Value} {E : String} : za_s G cc (some (.object E)) hh hx ini fr lk mc ms K nx .areturn 1 pc ls [v] h c s = (za_rf v ∧ c ≤ mc ∧ s ≤ ms ∧ K (.inl (some v)) h) := propext ⟨fun q => q.2, fun q => ⟨rfl, q⟩⟩
theorem zs_areturnA {v : Value} {t : FieldType} : za_s G cc (some (.array t)) hh hx ini fr lk mc ms K nx .areturn 1 pc ls [v] h c s = (za_rf v ∧ c ≤ mc ∧ s ≤ ms ∧ K (.inl (some v)) h) := propext ⟨fun q => q.2, fun q => ⟨rfl, q⟩⟩
/-- a call's turn: by the callee's contract -/
theorem za_call {M : za_M} {as rest : List Value} {mc' ms' : Nat} (hc : c + mc' ≤ mc) (hs : s + ms' ≤ ms) (hP : za_P G M as h mc' ms' (fun o h' => match o with
    | .inl v => nx (pc + 3) ls (v.toList ++ rest) h' (c + mc') (s + ms')
    | .inr k => za_ex hh hx mc ms K nx pc ls k h' (c + mc') (s + ms'))) : za_cl G hh hx mc ms K nx M as pc ls rest h c s := ⟨mc', ms', hc, hs, hP⟩
theorem za_ex0 {k : Nat} : za_ex [] hx mc ms K nx pc ls k h c s = (c ≤ mc ∧ s ≤ ms ∧ K (.inr k) h) := rfl
end ZH
/-- a method by its body, its parts named -/
theorem za_m {G : za_G} {y : MethodName} {cc : ByteArray} {nL : Nat} {ret : Option FieldType} {hh : List (Nat × Nat × Nat × Nat)} {fr : Nat} {lk : za_LK} {hx : List Nat} {ini : Bool} {cuts : Nat → Bool} {as : List Value} {h : za_H} {mc ms : Nat} {K : za_O → za_H → Prop} (F : za_F G) (hlk : za_lk y.cls lk) (hht : za_ht y.cls hh hx) (hini : ini = true → y.name = "<init>") (hpl : plainName y.cls = true) (has : as.length ≤ nL) (hcat : ∀ v ∈ as, v.category = 1)
    (body : ∀ w : za_N, (∀ (n pc : Nat) (ls : za_L) (st : List Value) (h : za_H) (c s : Nat), za_f G cc ret hh hx ini fr lk mc ms K cuts w n pc ls st h c s → w pc ls st h c s) → w 0 (as.map some ++ List.replicate (nL - as.length) none) [] h 0 0) : za_P G (y, cc, nL, ret, hh, fr) as h mc ms K :=
  za_meth (M := (y, cc, nL, ret, hh, fr)) F hlk hht hini hpl has hcat body
