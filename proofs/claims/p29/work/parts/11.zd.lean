/-! THE PLAIN LAYER (4): calls, throws, returns -/
theorem za_sum (st : List Value) : (st.map fun v => v.category).sum ≤ 2 * st.length := by
  induction st with
  | nil => simp
  | cons v vs ih =>
    have : v.category ≤ 2 := by cases v <;> simp [Value.category]
    simp only [List.map_cons, List.sum_cons, List.length_cons]
    omega
/-- over the frame at pc, exception k thrown -/
def za_xw (C : za_C) (pc : Nat) (ls : za_L) (k : Nat) (h : za_H) (cells slots : Nat) : Prop :=
  ∀ (H : Heap) (locs : List Loc) (L : Array Slot) (rest : List Value) (q : Addr) (ce : Cell), za_R C.G h H → za_K C.G H → (∀ z ∈ locs, za_A C.G z.base) → za_l C.M.nL ls L → H[q]? = some ce → ce.vm = .none → C.s.vm.findClass (za_e k) = some ce.cls → vx_W C.p C.G.l C.e (za_R0 C) C.s C.m C.args C.below C.meth C.c H locs cells slots (za_Q0 C) (F0 C.m pc L rest) q
/-- a method's own facts in the tables: one that throws nothing by handlers of its own, or one that has some -/
def za_mk (M : za_M) (n : Nat) : Prop := za_cw M ∈ lw_tbl ∧ Cond.initialized M.y.cls ∈ lw_tbl ∧ (M.y.cls ≠ "java/lang/invoke/MethodHandle" ∧ M.y.cls ≠ "java/lang/invoke/VarHandle") ∧ (parseMethodDescriptor M.y.desc).map (fun d => d.parameters.length) = some n ∧ M.nL ≤ 20
def za_mv (own : String) (idx : Nat) (M : za_M) (n : Nat) : Prop := za_mk M n ∧ M.hh = [] ∧ Cond.methodLink own idx M.y ∈ lw_tbl ∧ Cond.instanceMethod M.y ∈ lw_tbl ∧ Cond.selects M.y.cls M.y M.y ∈ lw_tbl
def za_ms (own : String) (idx : Nat) (M : za_M) (n : Nat) : Prop := za_mk M n ∧ Cond.methodLink own idx M.y ∈ lw_tbl ∧ Cond.static M.y ∈ lw_tbl
def za_mi (own : String) (idx : Nat) (M : za_M) (n : Nat) : Prop := za_mk M n ∧ M.hh = [] ∧ M.ret = none ∧ M.y.name = "<init>" ∧ Cond.methodLink own idx M.y ∈ lw_tbl ∧ Cond.instanceMethod M.y ∈ lw_tbl
def za_mn (own : String) (idx : Nat) (M : za_M) (n : Nat) : Prop := za_mk M n ∧ M.hh = [] ∧ (∃ host, Cond.methodLinkNest own idx M.y host ∈ lw_tbl) ∧ Cond.static M.y ∈ lw_tbl
section ZD
variable {C : za_C} {pc : Nat} {ls : za_L} {st : List Value} {h : za_H} {cells slots : Nat}
theorem za_back (X : za_X C) {mc ms : Nat} {K : za_O → za_H → Prop} {rest st0 : List Value} {H : Heap} {locs : List Loc} {L : Array Slot} {a : Array Value}
    (hr : vx_Run C.p C.G.l C.e (za_R0 C) C.s C.m C.args C.below C.meth C.c H locs cells slots mc ms (F0 C.m pc L st0) rest (za_Qc C.G K a) (za_Xc C.G K) (za_A C.G)) (hl : ∀ z ∈ locs, za_A C.G z.base) (hL : za_l C.M.nL ls L)
    (kk : ∀ v h', K (.inl v) h' → za_w C (pc + 3) ls (v.toList ++ rest) h' (cells + mc) (slots + ms))
    (kx : ∀ k h', K (.inr k) h' → za_xw C pc ls k h' (cells + mc) (slots + ms)) :
    W C.p C.G.l C.e (za_R0 C) C.s C.m C.args C.below C.meth C.c H locs cells slots (za_Q0 C) (F0 C.m pc L st0) := by
  intro T hT Xs
  have hap : ∀ L', (∀ z ∈ L', za_A C.G z.base) → ∀ z ∈ locs ++ L', za_A C.G z.base := fun L' h9 z hz => by
    rcases List.mem_append.mp hz with q | q
    · exact hl z q
    · exact h9 z q
  rcases hr T hT Xs with ⟨v, st₀, t, T', L', h0, X', hL', e1, e2, ⟨v', h', hv, hk, hRt, hKt⟩, st9⟩ | ⟨q, st₀, t, T', L', E, ce, h0, X', hL', e1, e2, ⟨k, h', rfl, hk, hRt, hKt⟩, hce, hcv, hcl, st9⟩
  · cases hv
    obtain ⟨t2, a1, b1⟩ := kk v h' hk T'.heap (locs ++ L') L (by rw [e1]; exact hRt) (by rw [e1]; exact hKt) (hap L' hL') hL T' rfl X'
    exact ⟨t2, st9 t2 a1, b1⟩
  · obtain ⟨t2, a1, b1⟩ := kx k h' hk T'.heap (locs ++ L') L rest q ce (by rw [e1]; exact hRt) (by rw [e1]; exact hKt) (hap L' hL') hL (by rw [e1]; exact hce) hcv hcl T' rfl X'
    exact ⟨t2, st9.trans a1, b1⟩
theorem za_xout (X : za_X C) {k : Nat} (hh : C.M.hh = []) (hc : cells ≤ C.mc) (hs : slots ≤ C.ms) (hk : C.K (.inr k) h) : za_xw C pc ls k h cells slots := fun H locs L rest q ce hR hK hl hL hq hv hcl => by
  have ht : C.c.exceptionTable.toList = [] := by rw [X.2.2.2.2.2.2.2.2.2, hh]; rfl
  exact vx_out (E := za_e k) (fun x hx => by rw [ht] at hx; cases hx) X.2.2.2.2.1 hq hv hcl (fun t ht _ => ⟨k, h, rfl, hk, by rw [ht]; exact hR, by rw [ht]; exact hK⟩) hl hc hs
/-- the handler of exception k at pc -/
def za_fd (pc k : Nat) : List (Nat × Nat × Nat × Nat) → List Nat → Option Nat
  | t :: ts, x :: xs => if t.1 ≤ pc ∧ pc < t.2.1 ∧ x = k then some t.2.2.1 else za_fd pc k ts xs
  | _, _ => none
/-- no method of this claim has handlers -/
def za_ht (_ : String) : List (Nat × Nat × Nat × Nat) → List Nat → Prop
  | _ :: _, _ => False
  | [], _ => True
theorem za_xin (X : za_X C) {k hp : Nat} {hx : List Nat} (ht : za_ht C.M.y.cls C.M.hh hx) (hf : za_fd pc k C.M.hh hx = some hp) (kk : ∀ q, za_w C hp ls [.ref q] h cells slots) : za_xw C pc ls k h cells slots := by
  cases hh : C.M.hh with
  | nil => rw [hh] at hf; cases hf
  | cons t ts => rw [hh] at ht; exact ht.elim
theorem za_lo {M : za_M} {fr : Nat} (h1 : M.fr + 1 ≤ fr) (h2 : M.nL ≤ 20) : 8 + (M.nL + 11) + 39 * M.fr ≤ 39 * fr := by omega
theorem za_cwc {M : za_M} (h : M.hh = []) : za_cw M = .code M.y M.cc M.nL M.ret := by unfold za_cw; rw [h]
theorem za_gcw (M : za_M) : goodWord (za_cw M) = true := by unfold za_cw; split <;> rfl
theorem za_hws (X : za_X C) {M : za_M} (hm : za_cw M ∈ lw_tbl) : ∀ w ∈ [za_cw M], ∀ (a' : Array Value) (U : State), C.s.WarmedH U.vm → w.before a' U = true := fun w hw a' U hW => by
  rw [List.mem_singleton.mp hw]
  exact za_word X.2.2.2.2.2.2.1 (State.WarmedH.trans X.2.2.2.2.2.1.1 hW) hm (za_gcw M) a'
theorem za_len {M : za_M} {n : Nat} (h : (parseMethodDescriptor M.y.desc).map (fun d => d.parameters.length) = some n) : ∀ sig, parseMethodDescriptor M.y.desc = some sig → n = sig.parameters.length := fun sig hs => by
  rw [hs] at h
  exact (Option.some.inj h).symm
theorem za_blind (G : za_G) (as : List Value) (h : za_H) : FrameBlind (za_Pc G as h) := fun _ _ _ _ q => q
theorem za_pre (X : za_X C) {as : List Value} {H : Heap} (hR : za_R C.G h H) (hK : za_K C.G H) : ∀ U : State, U.heap = H → C.s.WarmedH U.vm → za_Pc C.G as h as.toArray U := fun U hU hW => ⟨rfl, ⟨State.WarmedH.trans X.2.2.2.2.2.1.1 hW, by rw [hU]; exact hK⟩, by rw [hU]; exact hR⟩
theorem za_cwV (X : za_X C) {idx n mc ms : Nat} {M : za_M} (hm : za_mv C.M.y.cls idx M n) (hfr : M.fr + 1 ≤ C.M.fr) : CallW (za_R0 C) C.s C.args C.M.y.cls M.y.cls idx M.y M.cc M.nL M.ret [za_cw M] (za_rm M.fr mc ms) mc ms n := by
  obtain ⟨⟨m1, m2, m3, m4, m5⟩, m6, m7, m8, m9⟩ := hm
  exact ⟨⟨rfl, rfl, hfr, za_lo hfr m5, za_hws X m1, by rw [za_cwc m6]; exact List.mem_cons_self, by rw [← za_cwc m6]; exact za_wd X m1 (za_gcw M), za_wd X m2 rfl, m3, za_len m4, za_wd X m7 rfl⟩, za_wd X m8 rfl, za_wd X m9 rfl⟩
theorem za_invV (X : za_X C) {idx ci n b mc ms : Nat} {M : za_M} {as rest fs : List Value} {r : vw_C} {K : za_O → za_H → Prop} (d : decode C.M.cc pc = .ok (.invokevirtual idx, 3)) (hm : za_mv C.M.y.cls idx M n) (hn : as.length = n) (hb : h b = some (.inr (ci, fs))) (hci : vwCl[ci]? = some r) (hrc : r.1 = M.y.cls) (hfr : M.fr + 1 ≤ C.M.fr) (hr : rest.length ≤ 4) (hc : cells + mc ≤ C.mc) (hs : slots + ms ≤ C.ms) (hP : za_P C.G M (.ref b :: as) h mc ms K)
    (kk : ∀ v h', K (.inl v) h' → za_w C (pc + 3) ls (v.toList ++ rest) h' (cells + mc) (slots + ms)) (kx : ∀ k h', K (.inr k) h' → za_xw C pc ls k h' (cells + mc) (slots + ms)) : za_w C pc ls (as.reverse ++ .ref b :: rest) h cells slots := fun H locs L hR hK hl hL => by
  obtain ⟨r', h1, -, hrecv⟩ := za_ob X hR hb
  cases hci.symm.trans h1
  rw [hrc] at hrecv
  refine za_back X (rest := rest) (vx_runV (Ts := []) (As := as) (rest := rest) ⟨X.1, X.2.1, X.2.2.1, X.2.2.2.1, fun w hw => by cases hw⟩ hP (za_cwV X hm hfr) ⟨za_blind _ _ _, hrecv, za_pre X hR hK⟩ rfl hn hL.size rfl (lv_room ?_) d ⟨hc, hs⟩) hl hL kk kx
  have := za_sum rest
  omega
theorem za_invS (X : za_X C) {idx n mc ms : Nat} {M : za_M} {as rest : List Value} {K : za_O → za_H → Prop} (d : decode C.M.cc pc = .ok (.invokestatic idx, 3)) (hm : za_ms C.M.y.cls idx M n) (hn : as.length = n) (hfr : M.fr + 1 ≤ C.M.fr) (hr : rest.length ≤ 4) (hc : cells + mc ≤ C.mc) (hs : slots + ms ≤ C.ms) (hP : za_P C.G M as h mc ms K)
    (kk : ∀ v h', K (.inl v) h' → za_w C (pc + 3) ls (v.toList ++ rest) h' (cells + mc) (slots + ms)) (kx : ∀ k h', K (.inr k) h' → za_xw C pc ls k h' (cells + mc) (slots + ms)) : za_w C pc ls (as.reverse ++ rest) h cells slots := fun H locs L hR hK hl hL => by
  obtain ⟨⟨m1, m2, m3, m4, m5⟩, m7, m8⟩ := hm
  have hsum := za_sum rest
  cases hh : M.hh with
  | nil =>
    refine za_back X (rest := rest) (vx_runS (Ts := []) (As := as) (rest := rest) ⟨X.1, X.2.1, X.2.2.1, X.2.2.2.1, fun w hw => by cases hw⟩ hP (bytes := M.cc) (maxL := M.nL) (ret := M.ret) (n := n) ⟨⟨rfl, rfl, hfr, za_lo hfr m5, za_hws X m1, by rw [za_cwc hh]; exact List.mem_cons_self, by rw [← za_cwc hh]; exact za_wd X m1 (za_gcw M), za_wd X m2 rfl, m3, za_len m4, za_wd X m7 rfl⟩, za_wd X m8 rfl⟩ ⟨za_blind _ _ _, za_pre X hR hK⟩ rfl hn hL.size rfl (lv_room (by omega)) d ⟨hc, hs⟩) hl hL kk kx
  | cons t ts =>
    have ec : za_cw M = .codeWith M.y M.cc M.nL M.ret M.hh := by unfold za_cw; rw [hh]
    refine za_back X (rest := rest) (vx_runSX (hh := M.hh) (Ts := []) (As := as) (rest := rest) ⟨X.1, X.2.1, X.2.2.1, X.2.2.2.1, fun w hw => by cases hw⟩ hP (bytes := M.cc) (maxL := M.nL) (ret := M.ret) (n := n) ⟨⟨rfl, rfl, hfr, za_lo hfr m5, za_hws X m1, by rw [ec]; exact List.mem_cons_self⟩, by rw [← ec]; exact za_wd X m1 (za_gcw M), za_wd X m2 rfl, m3, za_len m4, za_wd X m7 rfl, za_wd X m8 rfl⟩ ⟨za_blind _ _ _, za_pre X hR hK⟩ rfl hn hL.size rfl (lv_room (by omega)) d ⟨hc, hs⟩) hl hL kk kx
theorem za_invN (X : za_X C) {idx n mc ms : Nat} {M : za_M} {as rest : List Value} {K : za_O → za_H → Prop} (d : decode C.M.cc pc = .ok (.invokestatic idx, 3)) (hm : za_mn C.M.y.cls idx M n) (hn : as.length = n) (hfr : M.fr + 1 ≤ C.M.fr) (hr : rest.length ≤ 4) (hc : cells + mc ≤ C.mc) (hs : slots + ms ≤ C.ms) (hP : za_P C.G M as h mc ms K)
    (kk : ∀ v h', K (.inl v) h' → za_w C (pc + 3) ls (v.toList ++ rest) h' (cells + mc) (slots + ms)) (kx : ∀ k h', K (.inr k) h' → za_xw C pc ls k h' (cells + mc) (slots + ms)) : za_w C pc ls (as.reverse ++ rest) h cells slots := fun H locs L hR hK hl hL => by
  obtain ⟨⟨m1, m2, m3, m4, m5⟩, m6, ⟨host, m7⟩, m8⟩ := hm
  have hsum := za_sum rest
  have hlink : (Cond.methodLinkNest C.M.y.cls idx M.y host).before C.args C.s = true := by
    obtain ⟨A0, hA0⟩ := X.2.2.2.2.2.2.1.2.1
    exact va_Nw.use rfl (va_Nw.warmM X.2.2.2.2.2.1.1 (va_Nw.of rfl (hA0 _ m7)))
  refine za_back X (rest := rest) (vx_runSN (Ts := []) (As := as) (rest := rest) ⟨X.1, X.2.1, X.2.2.1, X.2.2.2.1, fun w hw => by cases hw⟩ hP (bytes := M.cc) (maxL := M.nL) (ret := M.ret) (n := n) ⟨⟨⟨rfl, rfl, hfr, za_lo hfr m5, za_hws X m1, by rw [za_cwc m6]; exact List.mem_cons_self⟩, by rw [← za_cwc m6]; exact za_wd X m1 (za_gcw M), za_wd X m2 rfl, m3, za_len m4, hlink⟩, za_wd X m8 rfl, trivial⟩ ⟨za_blind _ _ _, za_pre X hR hK⟩ rfl hn hL.size rfl (lv_room (by omega)) d ⟨hc, hs⟩) hl hL kk kx
theorem za_invI (X : za_X C) {idx n b mc ms : Nat} {M : za_M} {as rest : List Value} {K : za_O → za_H → Prop} (d : decode C.M.cc pc = .ok (.invokespecial idx, 3)) (hm : za_mi C.M.y.cls idx M n) (hn : as.length = n) (hfr : M.fr + 1 ≤ C.M.fr) (hr : rest.length ≤ 4) (hc : cells + mc ≤ C.mc) (hs : slots + ms ≤ C.ms) (hP : za_P C.G M (.ref b :: as) h mc ms K)
    (kk : ∀ v h', K (.inl v) h' → za_w C (pc + 3) ls (v.toList ++ rest) h' (cells + mc) (slots + ms)) (kx : ∀ k h', K (.inr k) h' → za_xw C pc ls k h' (cells + mc) (slots + ms)) : za_w C pc ls (as.reverse ++ .ref b :: rest) h cells slots := fun H locs L hR hK hl hL => by
  obtain ⟨⟨m1, m2, m3, m4, m5⟩, m6, mr, mn, m7, m8⟩ := hm
  have hsum := za_sum rest
  have ec : za_cw M = .code M.y M.cc M.nL none := by rw [za_cwc m6, mr]
  refine za_back X (rest := rest) (vx_runI (Ts := []) (As := as) (rest := rest) ⟨X.1, X.2.1, X.2.2.1, X.2.2.2.1, fun w hw => by cases hw⟩ hP (bytes := M.cc) (maxL := M.nL) (n := n) ⟨⟨rfl, rfl, hfr, za_lo hfr m5, za_hws X m1, by rw [ec]; exact List.mem_cons_self, by rw [← ec]; exact za_wd X m1 (za_gcw M), za_wd X m2 rfl, m3, za_len m4, za_wd X m7 rfl⟩, mn, za_wd X m8 rfl⟩ ⟨za_blind _ _ _, za_pre X hR hK⟩ rfl hn hL.size rfl (lv_room (by omega)) d ⟨hc, hs⟩) hl hL kk kx
/-- the ends -/
theorem za_ret {R : Room} {H : Heap} {locs : List Loc} {L : Array Slot} {st : List Value} {pc : Nat} (hc : cells ≤ C.mc) (hs : slots ≤ C.ms) (k : W C.p C.G.l C.e R C.s C.m C.args C.below C.meth C.c H locs C.mc C.ms (MQ C.below (za_Qc C.G C.K) C.args C.s C.mc C.ms (za_A C.G)) (F0 C.m pc L st)) : W C.p C.G.l C.e R C.s C.m C.args C.below C.meth C.c H locs cells slots (za_Q0 C) (F0 C.m pc L st) := W.widen hc hs (vx_ret k)
theorem za_ireturn (X : za_X C) {v : Int32} {ty : FieldType} (d : decode C.M.cc pc = .ok (.ireturn, 1)) (hr : C.M.ret = some ty) (hv : narrow ty (.int v) = .int v) (hc : cells ≤ C.mc) (hs : slots ≤ C.ms) (k : C.K (.inl (some (.int v))) h) : za_w C pc ls [.int v] h cells slots := fun H locs L hR hK hl hL =>
  za_ret hc hs (W.zret X.1 X.2.1 (by rw [X.2.2.2.2.2.2.2.2.1]; exact hr) hv (fun t ht hW => ⟨_, h, rfl, k, by rw [ht]; exact hR, by rw [ht]; exact hK⟩) hl d (hlocks := X.2.2.2.2.1))
theorem za_return (X : za_X C) (d : decode C.M.cc pc = .ok (.return_, 1)) (hr : C.M.ret = none) (hc : cells ≤ C.mc) (hs : slots ≤ C.ms) (k : C.K (.inl none) h) : za_w C pc ls [] h cells slots := fun H locs L hR hK hl hL =>
  za_ret hc hs (W.vret X.1 X.2.1 (by rw [X.2.2.2.2.2.2.2.2.1]; exact hr) (fun t ht hW => ⟨_, h, rfl, k, by rw [ht]; exact hR, by rw [ht]; exact hK⟩) hl d (hlocks := X.2.2.2.2.1))
theorem za_areturn (X : za_X C) {v : Value} {ty : FieldType} (d : decode C.M.cc pc = .ok (.areturn, 1)) (hr : C.M.ret = some ty) (ht : (∃ n, ty = .object n) ∨ ∃ t, ty = .array t) (hv : za_rf v) (hc : cells ≤ C.mc) (hs : slots ≤ C.ms) (k : C.K (.inl (some v)) h) : za_w C pc ls [v] h cells slots := fun H locs L hR hK hl hL =>
  za_ret hc hs (W.aret X.1 X.2.1 (by rw [X.2.2.2.2.2.2.2.2.1]; exact hr) ht hv (fun t ht hW => ⟨_, h, rfl, k, by rw [ht]; exact hR, by rw [ht]; exact hK⟩) hl d (hlocks := X.2.2.2.2.1))
end ZD
