/-! THE PLAIN LAYER (6): a fragment of a method's body as a proposition, and that it is sound -/
/-- a class's links: fields (class, place, type, final), methods (kind, arguments, receiver's class, frames, the method), 'new' (class, first values), throws (exception, constructor), texts, casts -/
abbrev za_LK : Type := (Nat → Option (Nat × Nat × FieldType × Nat)) × (Nat → Option (Nat × Nat × Nat × Nat × za_M)) × (Nat → Option (Nat × List Value)) × (Nat → Option (Nat × Nat)) × (Nat → Bool) × (Nat → Option Nat) × (Nat → Option Int32)
abbrev za_LK.fl (l : za_LK) := l.1
abbrev za_LK.mt (l : za_LK) := l.2.1
abbrev za_LK.nw (l : za_LK) := l.2.2.1
abbrev za_LK.th (l : za_LK) := l.2.2.2.1
abbrev za_LK.sx (l : za_LK) := l.2.2.2.2.1
abbrev za_LK.ck (l : za_LK) := l.2.2.2.2.2.1
abbrev za_LK.cn (l : za_LK) := l.2.2.2.2.2.2
def za_okm (own : String) (i : Nat) (q : Nat × Nat × Nat × Nat × za_M) : Prop := q.2.2.2.2.fr = q.2.2.2.1 ∧ match q.1 with
  | 0 => za_mv own i q.2.2.2.2 q.2.1 ∧ ∃ r, vwCl[q.2.2.1]? = some r ∧ r.1 = q.2.2.2.2.y.cls
  | 1 => za_ms own i q.2.2.2.2 q.2.1
  | 2 => za_mi own i q.2.2.2.2 q.2.1
  | 3 => za_mn own i q.2.2.2.2 q.2.1
  | 5 => Jvm.Cond.methodLink own i Lib.Math.max.name ∈ lw_tbl ∧ Jvm.Cond.static Lib.Math.max.name ∈ lw_tbl ∧ Jvm.Cond.initialized "java/lang/Math" ∈ lw_tbl ∧ Jvm.Cond.code Lib.Math.max.name Lib.Math.max.code 2 (some .int) ∈ lw_tbl
  | 6 => Jvm.Cond.methodLink own i Lib.Math.min.name ∈ lw_tbl ∧ Jvm.Cond.static Lib.Math.min.name ∈ lw_tbl ∧ Jvm.Cond.initialized "java/lang/Math" ∈ lw_tbl ∧ Jvm.Cond.code Lib.Math.min.name Lib.Math.min.code 2 (some .int) ∈ lw_tbl
  | _ => Jvm.Cond.methodLink own i objectInit ∈ lw_tbl ∧ Jvm.Cond.instanceMethod objectInit ∈ lw_tbl ∧ Jvm.Cond.code objectInit ⟨#[0xb1]⟩ 1 none ∈ lw_tbl
def za_lk (own : String) (l : za_LK) : Prop :=
  (∀ i q, l.fl i = some q → za_fl own i q.1 q.2.1 q.2.2.1 q.2.2.2) ∧ (∀ i q, l.mt i = some q → za_okm own i q) ∧ (∀ i q, l.nw i = some q → za_nl own i q.1 q.2) ∧ (∀ i q j, l.th i = some q → l.sx j = true → za_tl own i j q.2 q.1) ∧ (∀ i ci, l.ck i = some ci → ∃ r, vwCl[ci]? = some r ∧ Jvm.Cond.classLink own i r.1 ∈ lw_tbl) ∧ (∀ i v, l.cn i = some v → Jvm.Cond.constant own i v ∈ lw_tbl)
/-- what the rows of Objects need -/
def za_cok (ci : Nat) : Prop := ∃ r, vwCl[ci]? = some r ∧ Jvm.Cond.castable r.1 "java/lang/Object" ∈ lw_tbl
abbrev za_N : Type := Nat → za_L → List Value → za_H → Nat → Nat → Prop
def za_fn (k : Fin 4) : Nat := match k with
  | 0 => 0
  | 1 => 1
  | 2 => 2
  | 3 => 3
theorem za_fn_ok : ∀ k : Fin 4, za_fn k = (k : Nat) := by decide
def za_br (P A B : Prop) : Prop := (P → A) ∧ (¬ P → B)
def za_tg (pc : Nat) (off : Int) (k : Nat → Prop) : Prop := 0 ≤ (pc : Int) + off ∧ k ((pc : Int) + off).toNat
/-- exception k at pc -/
def za_ex (hh : List (Nat × Nat × Nat × Nat)) (hx : List Nat) (mc ms : Nat) (K : za_O → za_H → Prop) (nx : za_N) (pc : Nat) (ls : za_L) (k : Nat) (h : za_H) (c s : Nat) : Prop := match hh with
  | [] => c ≤ mc ∧ s ≤ ms ∧ K (.inr k) h
  | _ :: _ => match za_fd pc k hh hx with
    | some hp => ∀ q, nx hp ls [.ref q] h c s
    | none => False
/-- a call -/
def za_cl (G : za_G) (hh : List (Nat × Nat × Nat × Nat)) (hx : List Nat) (mc ms : Nat) (K : za_O → za_H → Prop) (nx : za_N) (M : za_M) (as : List Value) (pc : Nat) (ls : za_L) (rest : List Value) (h : za_H) (c s : Nat) : Prop :=
  ∃ mc' ms', c + mc' ≤ mc ∧ s + ms' ≤ ms ∧ za_P G M as h mc' ms' (fun o h' => match o with
    | .inl v => nx (pc + 3) ls (v.toList ++ rest) h' (c + mc') (s + ms')
    | .inr k => za_ex hh hx mc ms K nx pc ls k h' (c + mc') (s + ms'))
def za_isC (h : za_H) (b ci : Nat) : Prop := ∃ fs, h b = some (.inr (ci, fs))
def za_th (cc : ByteArray) (hh : List (Nat × Nat × Nat × Nat)) (fr : Nat) (lk : za_LK) (mc ms : Nat) (K : za_O → za_H → Prop) (k ic pc : Nat) (st : List Value) (h : za_H) (c s : Nat) : Prop :=
  hh = [] ∧ 6 ≤ fr ∧ st.length ≤ 4 ∧ c + 1 ≤ mc ∧ s + 6 ≤ ms ∧ decode cc (pc + 3) = .ok (.dup, 1) ∧ K (.inr k) h ∧ match decode cc (pc + 4) with
    | .ok (.ldc j, 2) => lk.sx j = true ∧ decode cc (pc + 6) = .ok (.invokespecial ic, 3) ∧ decode cc (pc + 9) = .ok (.athrow, 1)
    | .ok (.ldc_w j, 3) => lk.sx j = true ∧ decode cc (pc + 7) = .ok (.invokespecial ic, 3) ∧ decode cc (pc + 10) = .ok (.athrow, 1)
    | _ => False
def za_s (G : za_G) (cc : ByteArray) (ret : Option FieldType) (hh : List (Nat × Nat × Nat × Nat)) (hx : List Nat) (ini : Bool) (fr : Nat) (lk : za_LK) (mc ms : Nat) (K : za_O → za_H → Prop) (nx : za_N) (i : Instr) (len pc : Nat) (ls : za_L) (st : List Value) (h : za_H) (c s : Nat) : Prop := match i with
  | .iconst n => len = 1 ∧ nx (pc + 1) ls (.int (Int32.ofInt n) :: st) h c s
  | .bipush n => len = 2 ∧ nx (pc + 2) ls (.int (Int8.ofInt n).toInt32 :: st) h c s
  | .sipush n => len = 3 ∧ nx (pc + 3) ls (.int (Int16.ofInt n).toInt32 :: st) h c s
  | .lconst n => len = 1 ∧ nx (pc + 1) ls (.long (Int64.ofNat (n : Nat)) :: st) h c s
  | .aconst_null => len = 1 ∧ nx (pc + 1) ls (.null :: st) h c s
  | .iload_n k => len = 1 ∧ match ls[za_fn k]? with
    | some (some (.int x)) => nx (pc + 1) ls (.int x :: st) h c s
    | _ => False
  | .iload k => len = 2 ∧ match ls[k]? with
    | some (some (.int x)) => nx (pc + 2) ls (.int x :: st) h c s
    | _ => False
  | .aload_n k => len = 1 ∧ match ls[za_fn k]? with
    | some (some v) => za_rf v ∧ nx (pc + 1) ls (v :: st) h c s
    | _ => False
  | .aload k => len = 2 ∧ match ls[k]? with
    | some (some v) => za_rf v ∧ nx (pc + 2) ls (v :: st) h c s
    | _ => False
  | .istore_n k => len = 1 ∧ match st with
    | .int x :: st' => za_fn k < ls.length ∧ nx (pc + 1) (ls.set (za_fn k) (some (.int x))) st' h c s
    | _ => False
  | .istore k => len = 2 ∧ match st with
    | .int x :: st' => k < ls.length ∧ nx (pc + 2) (ls.set k (some (.int x))) st' h c s
    | _ => False
  | .astore_n k => len = 1 ∧ match st with
    | v :: st' => za_rf v ∧ za_fn k < ls.length ∧ nx (pc + 1) (ls.set (za_fn k) (some v)) st' h c s
    | _ => False
  | .astore k => len = 2 ∧ match st with
    | v :: st' => za_rf v ∧ k < ls.length ∧ nx (pc + 2) (ls.set k (some v)) st' h c s
    | _ => False
  | .iinc k n => len = 3 ∧ match ls[k]? with
    | some (some (.int x)) => nx (pc + 3) (ls.set k (some (.int (x + Int32.ofInt n)))) st h c s
    | _ => False
  | .iadd => len = 1 ∧ match st with
    | .int y :: .int x :: st' => nx (pc + 1) ls (.int (x + y) :: st') h c s
    | _ => False
  | .isub => len = 1 ∧ match st with
    | .int y :: .int x :: st' => nx (pc + 1) ls (.int (x - y) :: st') h c s
    | _ => False
  | .imul => len = 1 ∧ match st with
    | .int y :: .int x :: st' => nx (pc + 1) ls (.int (x * y) :: st') h c s
    | _ => False
  | .idiv => len = 1 ∧ match st with
    | .int y :: .int x :: st' => ¬ y = nI 0 ∧ nx (pc + 1) ls (.int (x / y) :: st') h c s
    | _ => False
  | .irem => len = 1 ∧ match st with
    | .int y :: .int x :: st' => ¬ y = nI 0 ∧ nx (pc + 1) ls (.int (x - x / y * y) :: st') h c s
    | _ => False
  | .lload_n k => len = 1 ∧ match ls[za_fn k]?, ls[za_fn k + 1]? with
    | some (some (.long x)), some none => nx (pc + 1) ls (.long x :: st) h c s
    | _, _ => False
  | .lload k => len = 2 ∧ match ls[k]?, ls[k + 1]? with
    | some (some (.long x)), some none => nx (pc + 2) ls (.long x :: st) h c s
    | _, _ => False
  | .lstore k => len = 2 ∧ match st with
    | .long x :: st' => k + 1 < ls.length ∧ nx (pc + 2) ((ls.set k (some (.long x))).set (k + 1) none) st' h c s
    | _ => False
  | .lshl => len = 1 ∧ match st with
    | .int y :: .long x :: st' => nx (pc + 1) ls (.long (x <<< (y.toInt64 &&& 63)) :: st') h c s
    | _ => False
  | .lshr => len = 1 ∧ match st with
    | .int y :: .long x :: st' => nx (pc + 1) ls (.long (x >>> (y.toInt64 &&& 63)) :: st') h c s
    | _ => False
  | .land => len = 1 ∧ match st with
    | .long y :: .long x :: st' => nx (pc + 1) ls (.long (x &&& y) :: st') h c s
    | _ => False
  | .lor => len = 1 ∧ match st with
    | .long y :: .long x :: st' => nx (pc + 1) ls (.long (x ||| y) :: st') h c s
    | _ => False
  | .ldc idx => len = 2 ∧ match lk.cn idx with
    | some v => nx (pc + 2) ls (.int v :: st) h c s
    | none => False
  | .iand => len = 1 ∧ match st with
    | .int y :: .int x :: st' => nx (pc + 1) ls (.int (x &&& y) :: st') h c s
    | _ => False
  | .ior => len = 1 ∧ match st with
    | .int y :: .int x :: st' => nx (pc + 1) ls (.int (x ||| y) :: st') h c s
    | _ => False
  | .ixor => len = 1 ∧ match st with
    | .int y :: .int x :: st' => nx (pc + 1) ls (.int (x ^^^ y) :: st') h c s
    | _ => False
  | .ishl => len = 1 ∧ match st with
    | .int y :: .int x :: st' => nx (pc + 1) ls (.int (x <<< (y &&& 31)) :: st') h c s
    | _ => False
  | .ishr => len = 1 ∧ match st with
    | .int y :: .int x :: st' => nx (pc + 1) ls (.int (x >>> (y &&& 31)) :: st') h c s
    | _ => False
  | .i2l => len = 1 ∧ match st with
    | .int x :: st' => nx (pc + 1) ls (.long x.toInt64 :: st') h c s
    | _ => False
  | .lcmp => len = 1 ∧ match st with
    | .long y :: .long x :: st' => nx (pc + 1) ls (.int (lg_cmp x y) :: st') h c s
    | _ => False
  | .dup => len = 1 ∧ match st with
    | v :: st' => v.category = 1 ∧ nx (pc + 1) ls (v :: v :: st') h c s
    | _ => False
  | .dup_x1 => len = 1 ∧ match st with
    | v :: w :: st' => v.category = 1 ∧ w.category = 1 ∧ nx (pc + 1) ls (v :: w :: v :: st') h c s
    | _ => False
  | .dup2 => len = 1 ∧ match st with
    | v :: w :: st' => v.category = 1 ∧ w.category = 1 ∧ nx (pc + 1) ls (v :: w :: v :: w :: st') h c s
    | _ => False
  | .pop => len = 1 ∧ match st with
    | v :: st' => v.category = 1 ∧ nx (pc + 1) ls st' h c s
    | _ => False
  | .goto off => len = 3 ∧ za_tg pc off (fun t => nx t ls st h c s)
  | .if_icmp op off => len = 3 ∧ match st with
    | .int y :: .int x :: st' => 0 ≤ (pc : Int) + off ∧ za_br (za_cd op x y) (nx ((pc : Int) + off).toNat ls st' h c s) (nx (pc + 3) ls st' h c s)
    | _ => False
  | .ifCond op off => len = 3 ∧ match st with
    | .int x :: st' => 0 ≤ (pc : Int) + off ∧ za_br (za_cd op x (nI 0)) (nx ((pc : Int) + off).toNat ls st' h c s) (nx (pc + 3) ls st' h c s)
    | _ => False
  | .ifnonnull off => len = 3 ∧ match st with
    | v :: st' => za_rf v ∧ 0 ≤ (pc : Int) + off ∧ za_br (¬ v = .null) (nx ((pc : Int) + off).toNat ls st' h c s) (nx (pc + 3) ls st' h c s)
    | _ => False
  | .if_acmp op off => len = 3 ∧ match st with
    | w :: v :: st' => za_rf v ∧ za_rf w ∧ 0 ≤ (pc : Int) + off ∧ za_br (match op with
      | .eq => v = w
      | .ne => ¬ v = w) (nx ((pc : Int) + off).toNat ls st' h c s) (nx (pc + 3) ls st' h c s)
    | _ => False
  | .tableswitch dflt lo hi offs => match st with
    | .int x :: st' => za_br (x.toInt < lo ∨ hi < x.toInt) (za_tg pc dflt (fun t => nx t ls st' h c s)) (match offs[(x.toInt - lo).toNat]? with
      | some off => za_tg pc off (fun t => nx t ls st' h c s)
      | none => False)
    | _ => False
  | .iaload => len = 1 ∧ match st with
    | .int j :: .ref a :: st' => match h a with
      | some (.inl (.int, n, .inl f)) => vp_in j n ∧ nx (pc + 1) ls (.int (f j.toNatClampNeg) :: st') h c s
      | _ => False
    | _ => False
  | .baload => len = 1 ∧ match st with
    | .int j :: .ref a :: st' => match h a with
      | some (.inl (.boolean, n, .inl f)) => vp_in j n ∧ nx (pc + 1) ls (.int (f j.toNatClampNeg) :: st') h c s
      | _ => False
    | _ => False
  | .laload => len = 1 ∧ match st with
    | .int j :: .ref a :: st' => match h a with
      | some (.inl (.long, n, .inr (.inl f))) => vp_in j n ∧ nx (pc + 1) ls (.long (f j.toNatClampNeg) :: st') h c s
      | _ => False
    | _ => False
  | .aaload => len = 1 ∧ match st with
    | .int j :: .ref a :: st' => match h a with
      | some (.inl (.object _, n, .inr (.inr (.inr (.inr f))))) => vp_in j n ∧ nx (pc + 1) ls (va_rf (f j.toNatClampNeg) :: st') h c s
      | _ => False
    | _ => False
  | .iastore => len = 1 ∧ match st with
    | .int x :: .int j :: .ref a :: st' => match h a with
      | some (.inl (.int, n, .inl f)) => vp_in j n ∧ nx (pc + 1) ls st' (za_up h a (.inl (.int, n, .inl (upd f j.toNatClampNeg x)))) c s
      | _ => False
    | _ => False
  | .bastore => len = 1 ∧ match st with
    | .int x :: .int j :: .ref a :: st' => match h a with
      | some (.inl (.boolean, n, .inl f)) => vp_in j n ∧ (x = nI 0 ∨ x = nI 1) ∧ nx (pc + 1) ls st' (za_up h a (.inl (.boolean, n, .inl (upd f j.toNatClampNeg x)))) c s
      | _ => False
    | _ => False
  | .lastore => len = 1 ∧ match st with
    | .long x :: .int j :: .ref a :: st' => match h a with
      | some (.inl (.long, n, .inr (.inl f))) => vp_in j n ∧ nx (pc + 1) ls st' (za_up h a (.inl (.long, n, .inr (.inl (vp_updL f j.toNatClampNeg x))))) c s
      | _ => False
    | _ => False
  | .aastore => len = 1 ∧ match st with
    | .null :: .int j :: .ref a :: st' => (match h a with
      | some (.inl (.object E, n, .inr (.inr (.inr (.inr f))))) => vp_in j n ∧ nx (pc + 1) ls st' (za_up h a (.inl (.object E, n, .inr (.inr (.inr (.inr (va_up f j.toNatClampNeg none))))))) c s
      | _ => False)
    | .ref v :: .int j :: .ref a :: st' => (match h a with
      | some (.inl (.object "java/lang/Object", n, .inr (.inr (.inr (.inr f))))) => vp_in j n ∧ (∃ ci, za_isC h v ci ∧ za_cok ci) ∧ nx (pc + 1) ls st' (za_up h a (.inl (.object "java/lang/Object", n, .inr (.inr (.inr (.inr (va_up f j.toNatClampNeg (some v)))))))) c s
      | _ => False)
    | _ => False
  | .arraylength => len = 1 ∧ match st with
    | .ref a :: st' => match h a with
      | some (.inl (_, n, _)) => nx (pc + 1) ls (.int (nI n) :: st') h c s
      | _ => a = G.t ∧ nx (pc + 1) ls (.int (nI 0) :: st') h c s
    | _ => False
  | .getfield idx => len = 3 ∧ match st with
    | .ref a :: st' => match lk.fl idx with
      | some (ci, k, _, _) => (match h a with
        | some (.inr (ci', fs)) => ci' = ci ∧ (match fs[k]? with
          | some v => nx (pc + 3) ls (v :: st') h c s
          | none => False)
        | _ => False)
      | none => False
    | _ => False
  | .putfield idx => len = 3 ∧ match st with
    | v :: .ref a :: st' => match lk.fl idx with
      | some (ci, k, ty, fin) => (match h a with
        | some (.inr (ci', fs)) => ci' = ci ∧ k < fs.length ∧ (fin = 0 ∨ (fin = 1 ∧ ini = true)) ∧ za_fit ty v ∧ nx (pc + 3) ls st' (za_up h a (.inr (ci, fs.set k v))) c s
        | _ => False)
      | none => False
    | _ => False
  | .new idx => len = 3 ∧ match lk.nw idx with
    | some (ci, fs) => c + 1 ≤ mc ∧ s + fs.length ≤ ms ∧ ∀ q, za_nn G h q → nx (pc + 3) ls (.ref q :: st) (za_up h q (.inr (ci, fs))) (c + 1) (s + fs.length)
    | none => match lk.th idx with
      | some (k, ic) => za_th cc hh fr lk mc ms K k ic pc st h c s
      | none => False
  | .newarray t => len = 2 ∧ match st with
    | .int n :: st' => t = .int ∧ ¬ n < 0 ∧ n.toNatClampNeg ≤ 1000000 ∧ c + 1 ≤ mc ∧ s + n.toNatClampNeg ≤ ms ∧ ∀ q, za_nn G h q → nx (pc + 2) ls (.ref q :: st') (za_up h q (za_a0 t n.toNatClampNeg)) (c + 1) (s + n.toNatClampNeg)
    | _ => False
  | .checkcast idx => len = 3 ∧ match st with
    | .ref a :: st' => match lk.ck idx with
      | some ci => za_isC h a ci ∧ nx (pc + 3) ls (.ref a :: st') h c s
      | none => False
    | _ => False
  | .invokevirtual idx => len = 3 ∧ match lk.mt idx with
    | some (0, n, ci, f, M) => f + 1 ≤ fr ∧ (match st.drop n with
      | .ref b :: rest => za_isC h b ci ∧ rest.length ≤ 4 ∧ za_cl G hh hx mc ms K nx M (.ref b :: (st.take n).reverse) pc ls rest h c s
      | _ => False)
    | _ => False
  | .invokestatic idx => len = 3 ∧ match lk.mt idx with
    | some (1, n, _, f, M) => f + 1 ≤ fr ∧ n ≤ st.length ∧ (st.drop n).length ≤ 4 ∧ za_cl G hh hx mc ms K nx M (st.take n).reverse pc ls (st.drop n) h c s
    | some (3, n, _, f, M) => f + 1 ≤ fr ∧ n ≤ st.length ∧ (st.drop n).length ≤ 4 ∧ za_cl G hh hx mc ms K nx M (st.take n).reverse pc ls (st.drop n) h c s
    | some (5, _, _, _, _) => 1 ≤ fr ∧ c ≤ mc ∧ s ≤ ms ∧ (match st with
      | .int b :: .int a :: rest => rest.length ≤ 4 ∧ nx (pc + 3) ls (.int (za_max a b) :: rest) h c s
      | _ => False)
    | some (6, _, _, _, _) => 1 ≤ fr ∧ c ≤ mc ∧ s ≤ ms ∧ (match st with
      | .int b :: .int a :: rest => rest.length ≤ 4 ∧ nx (pc + 3) ls (.int (za_min a b) :: rest) h c s
      | _ => False)
    | _ => False
  | .invokespecial idx => len = 3 ∧ match lk.mt idx with
    | some (2, n, _, f, M) => f + 1 ≤ fr ∧ (match st.drop n with
      | .ref b :: rest => rest.length ≤ 4 ∧ za_cl G hh hx mc ms K nx M (.ref b :: (st.take n).reverse) pc ls rest h c s
      | _ => False)
    | some (4, _, _, _, _) => 1 ≤ fr ∧ (match st with
      | .ref _ :: rest => rest.length ≤ 4 ∧ nx (pc + 3) ls rest h c s
      | _ => False)
    | _ => False
  | .ireturn => len = 1 ∧ match st, ret with
    | [.int v], some ty => narrow ty (.int v) = .int v ∧ c ≤ mc ∧ s ≤ ms ∧ K (.inl (some (.int v))) h
    | _, _ => False
  | .return_ => len = 1 ∧ match st with
    | [] => ret = none ∧ c ≤ mc ∧ s ≤ ms ∧ K (.inl none) h
    | _ => False
  | .areturn => len = 1 ∧ match st, ret with
    | [v], some (.object _) => za_rf v ∧ c ≤ mc ∧ s ≤ ms ∧ K (.inl (some v)) h
    | [v], some (.array _) => za_rf v ∧ c ≤ mc ∧ s ≤ ms ∧ K (.inl (some v)) h
    | _, _ => False
  | _ => False
def za_f (G : za_G) (cc : ByteArray) (ret : Option FieldType) (hh : List (Nat × Nat × Nat × Nat)) (hx : List Nat) (ini : Bool) (fr : Nat) (lk : za_LK) (mc ms : Nat) (K : za_O → za_H → Prop) (cuts : Nat → Bool) (w : za_N) : Nat → za_N
  | 0 => w
  | n + 1 => fun pc ls st h c s => match decode cc pc with
    | .ok (i, len) => za_s G cc ret hh hx ini fr lk mc ms K (fun pc' ls' st' h' c' s' => if cuts pc' = true then w pc' ls' st' h' c' s' else za_f G cc ret hh hx ini fr lk mc ms K cuts w n pc' ls' st' h' c' s') i len pc ls st h c s
    | _ => False
def za_go (G : za_G) (cc : ByteArray) (ret : Option FieldType) (hh : List (Nat × Nat × Nat × Nat)) (hx : List Nat) (ini : Bool) (fr : Nat) (lk : za_LK) (mc ms : Nat) (K : za_O → za_H → Prop) (cuts : Nat → Bool) (w : za_N) (n : Nat) : za_N := fun pc' ls' st' h' c' s' => if cuts pc' = true then w pc' ls' st' h' c' s' else za_f G cc ret hh hx ini fr lk mc ms K cuts w n pc' ls' st' h' c' s'
theorem za_f_eq (G : za_G) (cc : ByteArray) (ret : Option FieldType) (hh : List (Nat × Nat × Nat × Nat)) (hx : List Nat) (ini : Bool) (fr : Nat) (lk : za_LK) (mc ms : Nat) (K : za_O → za_H → Prop) (cuts : Nat → Bool) (w : za_N) (n pc : Nat) (ls : za_L) (st : List Value) (h : za_H) (c s : Nat) :
    za_f G cc ret hh hx ini fr lk mc ms K cuts w (n + 1) pc ls st h c s = match decode cc pc with
    | .ok (i, len) => za_s G cc ret hh hx ini fr lk mc ms K (za_go G cc ret hh hx ini fr lk mc ms K cuts w n) i len pc ls st h c s
    | _ => False := rfl
theorem za_go_eq (G : za_G) (cc : ByteArray) (ret : Option FieldType) (hh : List (Nat × Nat × Nat × Nat)) (hx : List Nat) (ini : Bool) (fr : Nat) (lk : za_LK) (mc ms : Nat) (K : za_O → za_H → Prop) (cuts : Nat → Bool) (w : za_N) (n pc : Nat) (ls : za_L) (st : List Value) (h : za_H) (c s : Nat) :
    za_go G cc ret hh hx ini fr lk mc ms K cuts w n pc ls st h c s = if cuts pc = true then w pc ls st h c s else za_f G cc ret hh hx ini fr lk mc ms K cuts w n pc ls st h c s := rfl
