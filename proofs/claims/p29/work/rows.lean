section
-- ===== PART A: goes FIRST, ahead of the names: the tables' words, and 'selects' of the private methods out of them =====
/-- a private method of a class that the tables say can be made, by its rows of tables_1 -/
def lw_okq (q : MethodName × Nat) : Prop := (q.1.cls ≠ "java/lang/invoke/MethodHandle" ∧ q.1.cls ≠ "java/lang/invoke/VarHandle") ∧ Cond.instantiable q.1.cls q.2 ∈ tables_1 ∧ Cond.privateMethod q.1 ∈ tables_1 ∧ Cond.instanceMethod q.1 ∈ tables_1
theorem lw_p0 : lw_okq (⟨"java/lang/Throwable", "fillInStackTrace", "(I)Ljava/lang/Throwable;"⟩, 6) := ⟨⟨by decide +kernel, by decide +kernel⟩, List.mem_of_getElem? (i := 131) (by decide +kernel), List.mem_of_getElem? (i := 129) (by decide +kernel), List.mem_of_getElem? (i := 130) (by decide +kernel)⟩
theorem lw_p1 : lw_okq (⟨"FeedTower", "isDraftOfUse", "()Z"⟩, 10) := ⟨⟨by decide +kernel, by decide +kernel⟩, List.mem_of_getElem? (i := 21) (by decide +kernel), List.mem_of_getElem? (i := 180) (by decide +kernel), List.mem_of_getElem? (i := 181) (by decide +kernel)⟩
theorem lw_p2 : lw_okq (⟨"FeedTower", "isOut", "(LFeedTower$Part;)Z"⟩, 10) := ⟨⟨by decide +kernel, by decide +kernel⟩, List.mem_of_getElem? (i := 21) (by decide +kernel), List.mem_of_getElem? (i := 203) (by decide +kernel), List.mem_of_getElem? (i := 204) (by decide +kernel)⟩
theorem lw_p3 : lw_okq (⟨"java/util/ArrayList", "add", "(Ljava/lang/Object;[Ljava/lang/Object;I)V"⟩, 3) := ⟨⟨by decide +kernel, by decide +kernel⟩, List.mem_of_getElem? (i := 29) (by decide +kernel), List.mem_of_getElem? (i := 257) (by decide +kernel), List.mem_of_getElem? (i := 258) (by decide +kernel)⟩
theorem lw_p4 : lw_okq (⟨"java/util/ArrayList", "grow", "()[Ljava/lang/Object;"⟩, 3) := ⟨⟨by decide +kernel, by decide +kernel⟩, List.mem_of_getElem? (i := 29) (by decide +kernel), List.mem_of_getElem? (i := 261) (by decide +kernel), List.mem_of_getElem? (i := 262) (by decide +kernel)⟩
theorem lw_p5 : lw_okq (⟨"java/util/ArrayList", "grow", "(I)[Ljava/lang/Object;"⟩, 3) := ⟨⟨by decide +kernel, by decide +kernel⟩, List.mem_of_getElem? (i := 29) (by decide +kernel), List.mem_of_getElem? (i := 265) (by decide +kernel), List.mem_of_getElem? (i := 266) (by decide +kernel)⟩
theorem lw_p6 : lw_okq (⟨"FeedTower", "cutWhatIsOut", "(LFeedTower$Item;)I"⟩, 10) := ⟨⟨by decide +kernel, by decide +kernel⟩, List.mem_of_getElem? (i := 21) (by decide +kernel), List.mem_of_getElem? (i := 308) (by decide +kernel), List.mem_of_getElem? (i := 309) (by decide +kernel)⟩
theorem lw_p7 : lw_okq (⟨"FeedTower", "noteChange", "(LFeedTower$Item;)V"⟩, 10) := ⟨⟨by decide +kernel, by decide +kernel⟩, List.mem_of_getElem? (i := 21) (by decide +kernel), List.mem_of_getElem? (i := 319) (by decide +kernel), List.mem_of_getElem? (i := 320) (by decide +kernel)⟩
theorem lw_p8 : lw_okq (⟨"FeedTower", "isReleased", "(LFeedTower$Item;)Z"⟩, 10) := ⟨⟨by decide +kernel, by decide +kernel⟩, List.mem_of_getElem? (i := 21) (by decide +kernel), List.mem_of_getElem? (i := 323) (by decide +kernel), List.mem_of_getElem? (i := 324) (by decide +kernel)⟩
theorem lw_p9 : lw_okq (⟨"FeedTower", "itemAt", "(I)LFeedTower$Item;"⟩, 10) := ⟨⟨by decide +kernel, by decide +kernel⟩, List.mem_of_getElem? (i := 21) (by decide +kernel), List.mem_of_getElem? (i := 331) (by decide +kernel), List.mem_of_getElem? (i := 332) (by decide +kernel)⟩
theorem lw_p10 : lw_okq (⟨"FeedTower", "releaseItemsOfThisHour", "()V"⟩, 10) := ⟨⟨by decide +kernel, by decide +kernel⟩, List.mem_of_getElem? (i := 21) (by decide +kernel), List.mem_of_getElem? (i := 343) (by decide +kernel), List.mem_of_getElem? (i := 344) (by decide +kernel)⟩
theorem lw_p11 : lw_okq (⟨"FeedTower", "appAt", "(I)LFeedTower$App;"⟩, 10) := ⟨⟨by decide +kernel, by decide +kernel⟩, List.mem_of_getElem? (i := 21) (by decide +kernel), List.mem_of_getElem? (i := 377) (by decide +kernel), List.mem_of_getElem? (i := 378) (by decide +kernel)⟩
theorem lw_p12 : lw_okq (⟨"FeedTower", "downloadsOf", "(I)I"⟩, 10) := ⟨⟨by decide +kernel, by decide +kernel⟩, List.mem_of_getElem? (i := 21) (by decide +kernel), List.mem_of_getElem? (i := 402) (by decide +kernel), List.mem_of_getElem? (i := 403) (by decide +kernel)⟩
theorem lw_p13 : lw_okq (⟨"FeedTower", "addToDraft", "(LFeedTower$Part;)I"⟩, 10) := ⟨⟨by decide +kernel, by decide +kernel⟩, List.mem_of_getElem? (i := 21) (by decide +kernel), List.mem_of_getElem? (i := 459) (by decide +kernel), List.mem_of_getElem? (i := 460) (by decide +kernel)⟩
def lw_privs_1 : List (MethodName × Nat) := [(⟨"java/lang/Throwable", "fillInStackTrace", "(I)Ljava/lang/Throwable;"⟩, 6), (⟨"FeedTower", "isDraftOfUse", "()Z"⟩, 10), (⟨"FeedTower", "isOut", "(LFeedTower$Part;)Z"⟩, 10), (⟨"java/util/ArrayList", "add", "(Ljava/lang/Object;[Ljava/lang/Object;I)V"⟩, 3), (⟨"java/util/ArrayList", "grow", "()[Ljava/lang/Object;"⟩, 3), (⟨"java/util/ArrayList", "grow", "(I)[Ljava/lang/Object;"⟩, 3), (⟨"FeedTower", "cutWhatIsOut", "(LFeedTower$Item;)I"⟩, 10), (⟨"FeedTower", "noteChange", "(LFeedTower$Item;)V"⟩, 10), (⟨"FeedTower", "isReleased", "(LFeedTower$Item;)Z"⟩, 10), (⟨"FeedTower", "itemAt", "(I)LFeedTower$Item;"⟩, 10), (⟨"FeedTower", "releaseItemsOfThisHour", "()V"⟩, 10), (⟨"FeedTower", "appAt", "(I)LFeedTower$App;"⟩, 10), (⟨"FeedTower", "downloadsOf", "(I)I"⟩, 10), (⟨"FeedTower", "addToDraft", "(LFeedTower$Part;)I"⟩, 10)]
theorem lw_r1 : ∀ q ∈ lw_privs_1, lw_okq q := List.forall_mem_cons.mpr ⟨lw_p0, List.forall_mem_cons.mpr ⟨lw_p1, List.forall_mem_cons.mpr ⟨lw_p2, List.forall_mem_cons.mpr ⟨lw_p3, List.forall_mem_cons.mpr ⟨lw_p4, List.forall_mem_cons.mpr ⟨lw_p5, List.forall_mem_cons.mpr ⟨lw_p6, List.forall_mem_cons.mpr ⟨lw_p7, List.forall_mem_cons.mpr ⟨lw_p8, List.forall_mem_cons.mpr ⟨lw_p9, List.forall_mem_cons.mpr ⟨lw_p10, List.forall_mem_cons.mpr ⟨lw_p11, List.forall_mem_cons.mpr ⟨lw_p12, List.forall_mem_cons.mpr ⟨lw_p13, fun _ h => absurd h List.not_mem_nil⟩⟩⟩⟩⟩⟩⟩⟩⟩⟩⟩⟩⟩⟩
def lw_privs : List (MethodName × Nat) := lw_privs_1
def lw_tbl : List Cond := k2_sels lw_privs ++ tables_1
theorem lw_privs_ok : ∀ q ∈ lw_privs, lw_okq q := lw_r1
end
section
/-! ===== BEGIN words of one list among another's, by their places ===== -/
theorem goodIn_r {big : List Cond} (ws : List Cond) (ps : List Nat) (hp : ws = ps.filterMap (fun i => big[i]?)) (h : ws.all goodWord = true) : GoodIn big ws := by
  intro w hw
  have h1 := List.all_eq_true.mp h w hw
  rw [hp] at hw
  obtain ⟨i, -, hi⟩ := List.mem_filterMap.mp hw
  have hm : w ∈ big := by first | exact List.mem_of_getElem? hi | exact List.getElem?_mem hi
  exact ⟨hm, good_of_word h1⟩
theorem goodIn_app {big a b : List Cond} (ha : GoodIn big a) (hb : GoodIn big b) : GoodIn big (a ++ b) := fun w h => (List.mem_append.mp h).elim (ha w) (hb w)
theorem goodIn_ca {big a b : List Cond} {c : Cond} (ha : GoodIn big (c :: a)) (hb : GoodIn big b) : GoodIn big (c :: (a ++ b)) := fun w h => (List.mem_cons.mp h).elim (fun e => ha w (List.mem_cons.mpr (Or.inl e))) (fun h => (List.mem_append.mp h).elim (fun h => ha w (List.mem_cons.mpr (Or.inr h))) (hb w))
theorem goodIn_sub {big ws : List Cond} (hm : ∀ w ∈ ws, w ∈ big) (h : ws.all goodWord = true) : GoodIn big ws := fun w hw => ⟨hm w hw, good_of_word (List.all_eq_true.mp h w hw)⟩
/-! ===== END ===== -/

/-! ===== BEGIN exceptions that leave a method, and their catching by the caller (launches without stack traces) ===== -/
section VXA
/-! The laws vx_back, vx_callV, vx_callS, vx_callSW, vx_throw0, vx_throwS follow proofs of the library, with one case more: JvmDerived/Free/Laws.lean (Back.of_free), Shelf42/LK1.lean (callV, callS), Shelf/KitTraced.lean (throwNew0V, throwNewS). -/
/-- where a method has thrown q: the class by its name, the cell, what was written, the world -/
def vx_T (XC : String → State → State → Prop) (st : State) (q : Addr) (t : State) (mc ms : Nat) (free : Addr → Prop) : Prop :=
  ∃ (E : String) (ce : Cell) (L : List Loc), XC E st t ∧ t.heap[q]? = some ce ∧ ce.vm = .none ∧ st.vm.findClass E = some ce.cls ∧ st.WarmedH t.vm ∧ st.sameButNew ({ t with vm := st.vm } : State) L mc ms ∧ ∀ z ∈ L, free z.base
def vx_Q (Qc : Array Value → State → Outcome → State → Prop) (XC : String → State → State → Prop) (mc ms : Nat) (free : Addr → Prop) : Array Value → State → Outcome → State → Prop := fun a st o t =>
  (Qc a st o t ∧ ∃ L, FrameEnd st o t L mc ms ∧ ∀ q ∈ L, free q.base) ∨ ∃ q, o = .threw q ∧ vx_T XC st q t mc ms free
/-- a callee that returns or throws -/
def vx_Met (l : Launch) (y : MethodName) (ws : List Cond) (rm : Room) (Pc : Array Value → State → Prop) (Qc : Array Value → State → Outcome → State → Prop) (XC : String → State → State → Prop) (mc ms : Nat) (free : Addr → Prop) : Prop :=
  MetFree l y (headSpec ws rm) Pc (fun _ _ _ _ _ => True) (vx_Q Qc XC mc ms free)
def vx_Post (XC : String → State → State → Prop) (mc ms : Nat) (free : Addr → Prop) : Pt → Array Value → Addr → Pt → Prop := fun A a q B =>
  ∃ (g : JFrame) (mk : MethodId) (t : State) (L : List Loc) (E : String) (ce : Cell), B.U.heap = t.heap ∧ B.U.vm = t.vm ∧ XC E (A.U.calling g mk a) t ∧ t.heap[q]? = some ce ∧ ce.vm = .none ∧ A.U.vm.findClass E = some ce.cls ∧ B.locs = A.locs ++ L ∧ (∀ z ∈ L, free z.base) ∧ B.cells = A.cells + mc ∧ B.slots = A.slots + ms
def vx_Back (l : Launch) (R : Room) (p : Program) (e : Env) (below : List Frame) (s : State) (sargs : Array Value) (y : MethodName) (len W9 : Nat)
    (Pre : Pt → Array Value → Prop) (Post : Pt → Array Value → Option Value → Pt → Prop) (PostX : Pt → Array Value → Addr → Pt → Prop) : Prop :=
  ∀ (m : MethodId) (meth : Method) (c : Code) (A : Pt) (g : JFrame) (ig : Instr) (mk : MethodId) (a : Array Value),
    Stand p l e R s m sargs below meth c A.U A.locs A.cells A.slots → g.method = m → g.locals.size = c.maxLocals → decode c.code g.pc = .ok (ig, len) →
    2 * g.monitorRoom + (g.stack.map fun v => v.category).sum ≤ W9 → A.U.methodNamed? y = some mk → Pre A a →
    (∃ (v : Option Value) (B : Pt), Stand p l e R s m sargs below meth c B.U B.locs B.cells B.slots ∧ Post A a v B ∧
      Steps p.tables e below (doInvoke e (A.U.setTop g) [] mk a).1 (B.U.setTop { g with pc := g.pc + len, stack := v.toList ++ g.stack })) ∨
    (∃ (q : Addr) (B : Pt), Stand p l e R s m sargs below meth c B.U B.locs B.cells B.slots ∧ PostX A a q B ∧
      Steps p.tables e below (doInvoke e (A.U.setTop g) [] mk a).1 ((B.U.setTop g).pushFrame (.throwing q)))
section Payer
variable {l : Launch} {R : Room} {p : Program} {e : Env} {below : List Frame} {s : State} {sargs : Array Value} {y : MethodName} {len W9 : Nat}
theorem vx_back {ws : List Cond} {rm : Room} {Pc : Array Value → State → Prop} {Qc : Array Value → State → Outcome → State → Prop} {XC : String → State → State → Prop} {mc ms : Nat} {free : Addr → Prop} {bytes : ByteArray} {maxL : Nat} {ret : Option FieldType}
    (hM : vx_Met l y ws rm Pc Qc XC mc ms free) (hblind : FrameBlind Pc) (hrc : rm.cells = mc) (hrs : rm.slots = ms)
    (hframes : rm.frames + 1 ≤ R.frames) (hlocals : W9 + (maxL + 11) + rm.locals ≤ R.locals)
    (hws : ∀ w ∈ ws, ∀ a' U, s.WarmedH U.vm → w.before a' U = true) (hcode : Cond.code y bytes maxL ret ∈ ws) (hinit : ∀ a' U, s.WarmedH U.vm → (Cond.initialized y.cls).before a' U = true) :
    vx_Back l R p e below s sargs y len W9 (PreOf R mc ms Pc) (PostOf Qc mc ms free) (vx_Post XC mc ms free) := by
  intro m meth c A g ig mk a X hg hsize hdg hW hn hp
  have h1 : (headSpec ws rm).pre.before a A.U = true := atoms_intro fun w hw => hws w hw _ _ X.warmed
  have h2 : (Cond.code y bytes maxL ret).before a A.U = true := hws _ hcode _ _ X.warmed
  have h3 : (Cond.initialized y.cls).before a A.U = true := hinit _ _ X.warmed
  have h4 : A.cells + (headSpec ws rm).room.cells ≤ R.cells := by rw [show (headSpec ws rm).room.cells = mc from hrc]; exact hp.1
  have h5 : A.slots + (headSpec ws rm).room.slots ≤ R.slots := by rw [show (headSpec ws rm).room.slots = ms from hrs]; exact hp.2.1
  have hPc : Pc a (A.U.calling g mk a) := hblind _ _ _ _ hp.2.2
  obtain ⟨U, Ls, c0, s0⟩ := A
  dsimp only [Pt.U, Pt.locs, Pt.cells, Pt.slots] at h1 h2 h3 h4 h5 X hn hPc ⊢
  obtain ⟨methY, cY, hmY, hcY, -, hlY, -, -, -, -⟩ := Cond.code_spec hn h2
  obtain ⟨kY, hkY, -⟩ := className_of_methodNamed hn
  have hinitY : kY.init = .initialized := Cond.initialized_spec (findClass_of_methodNamed hn) hkY h3
  have h : At U g.method c below := by rw [hg]; exact X.here
  have hlocals9 : W9 + (maxL + 11) + (headSpec ws rm).room.locals ≤ R.locals := hlocals
  have happ : (headSpec ws rm).appliesLoose y e.platform (U.calling g mk a) = true :=
    Spec.appliesLoose_calling (g := g) h hdg hn hkY hinitY
      (X.room_calling (g := g) (R' := (headSpec ws rm).room) hsize hmY hcY hframes (by rw [hlY]; omega) h4 h5) h1
  obtain ⟨mid, hmid⟩ := h.above
  have hfr : (U.setTop g).frames = (.java g :: mid) ++ below := by rw [State.frames_setTop' g h.top, hmid]; rfl
  obtain ⟨o, s₂, hsteps, -, hend, hq⟩ := Steps.callFree hM p X.admits X.cas X.clock (acts := []) hfr happ hPc trivial
  have hq' : vx_Q Qc XC mc ms free a (U.calling g mk a) o s₂ := hq
  rw [State.frames_setTop' g h.top] at hend
  obtain ⟨g₀, hg0⟩ := Option.isSome_iff_exists.mp h.top
  obtain ⟨r, hr⟩ := State.topJava?_eq_some.mp hg0
  have hr' : (({ U with heap := s₂.heap, slotsUsed := s₂.slotsUsed } : State).setVm s₂.vm).frames = .java g₀ :: r := hr
  rcases hq' with ⟨hqc, L, hfe, hL⟩ | ⟨q, rfl, E, ce, L, hx, hce, hcv, hcl, hW₂, hsm, hL⟩
  · obtain ⟨⟨v, rfl⟩, hW₂, e2, q2, q3, q4, q5, q6⟩ := id hfe
    have e3 : s₂ = ({ (U.calling g mk a).setFrames s₂.frames with heap := s₂.heap, slotsUsed := s₂.slotsUsed } : State).setVm s₂.vm := by
      have : s₂ = ({ s₂ with vm := (U.calling g mk a).vm } : State).setVm s₂.vm := rfl
      rw [e2] at this
      exact this
    obtain ⟨c₂, i₂, len₂, hc₂, hd₂, hf₂⟩ := hend
    have hW' : U.WarmedH s₂.vm := hW₂
    have hcc : c₂ = c := by
      have h1 : s₂.code? g.method = U.code? g.method := by
        rw [State.code?_eq, State.code?_eq, hW'.alike.method?]
      exact Option.some.inj (hc₂.symm.trans (h1.trans h.code))
    subst hcc
    have hlen : len₂ = len := by rw [hdg] at hd₂; cases hd₂; rfl
    subst hlen
    have hs₂ : s₂ = (({ U with heap := s₂.heap, slotsUsed := s₂.slotsUsed } : State).setVm s₂.vm).setTop { g with pc := g.pc + len₂, stack := v.toList ++ g.stack } := by
      refine e3.trans ?_
      rw [hf₂, State.calling_eq h.top, State.setFrames_setFrames, State.setTop_of_frames _ hr', hr]
      rfl
    have hsame : U.sameButNew ({ U with heap := s₂.heap, slotsUsed := s₂.slotsUsed } : State) L mc ms := by
      refine ⟨?_, q2, q3, q4, q5, q6⟩
      obtain ⟨t, ht, -⟩ := State.frames_cons hr
      show ({ U with heap := s₂.heap, slotsUsed := s₂.slotsUsed } : State) = { U.setFrames U.frames with heap := s₂.heap, slotsUsed := s₂.slotsUsed }
      rw [State.setFrames_self ht]
    subst hg
    refine Or.inl ⟨v, ⟨(({ U with heap := s₂.heap, slotsUsed := s₂.slotsUsed } : State).setVm s₂.vm), Ls ++ L, c0 + mc, s0 + ms⟩,
      ⟨X.admits, X.cas, X.clock, X.frames, X.room, X.hears, X.method, X.code, (X.here.setHeapUsed s₂.heap s₂.slotsUsed).setVm hW'.alike, X.tail, State.WarmedH.trans X.warmed hW', X.limits, X.bytes, X.same.trans (hsame.setVm s.vm)⟩,
      ⟨g, mk, s₂, L, rfl, rfl, hqc, rfl, hL, rfl, rfl⟩, ?_⟩
    show Steps p.tables e below _ ((({ U with heap := s₂.heap, slotsUsed := s₂.slotsUsed } : State).setVm s₂.vm).setTop { g with pc := g.pc + len₂, stack := v.toList ++ g.stack })
    rw [← hs₂]
    exact hsteps
  · obtain ⟨e2, q2, q3, q4, q5, q6⟩ := id hsm
    have e3 : s₂ = ({ (U.calling g mk a).setFrames s₂.frames with heap := s₂.heap, slotsUsed := s₂.slotsUsed } : State).setVm s₂.vm := by
      have : s₂ = ({ s₂ with vm := (U.calling g mk a).vm } : State).setVm s₂.vm := rfl
      rw [e2] at this
      exact this
    have hf₂ : s₂.frames = .throwing q :: .java g :: U.frames.tail := hend
    have hW' : U.WarmedH s₂.vm := hW₂
    have hs₂ : s₂ = ((({ U with heap := s₂.heap, slotsUsed := s₂.slotsUsed } : State).setVm s₂.vm).setTop g).pushFrame (.throwing q) := by
      refine e3.trans ?_
      rw [hf₂, State.calling_eq h.top, State.setFrames_setFrames, State.pushFrame, State.frames_setTop _ hr', State.setTop_of_frames _ hr', State.setFrames_setFrames, hr]
      rfl
    have hsame : U.sameButNew ({ U with heap := s₂.heap, slotsUsed := s₂.slotsUsed } : State) L mc ms := by
      refine ⟨?_, q2, q3, q4, q5, q6⟩
      obtain ⟨t, ht, -⟩ := State.frames_cons hr
      show ({ U with heap := s₂.heap, slotsUsed := s₂.slotsUsed } : State) = { U.setFrames U.frames with heap := s₂.heap, slotsUsed := s₂.slotsUsed }
      rw [State.setFrames_self ht]
    subst hg
    refine Or.inr ⟨q, ⟨(({ U with heap := s₂.heap, slotsUsed := s₂.slotsUsed } : State).setVm s₂.vm), Ls ++ L, c0 + mc, s0 + ms⟩,
      ⟨X.admits, X.cas, X.clock, X.frames, X.room, X.hears, X.method, X.code, (X.here.setHeapUsed s₂.heap s₂.slotsUsed).setVm hW'.alike, X.tail, State.WarmedH.trans X.warmed hW', X.limits, X.bytes, X.same.trans (hsame.setVm s.vm)⟩,
      ⟨g, mk, s₂, L, E, ce, rfl, rfl, hx, hce, hcv, hcl, rfl, hL, rfl, rfl⟩, ?_⟩
    show Steps p.tables e below _ (((({ U with heap := s₂.heap, slotsUsed := s₂.slotsUsed } : State).setVm s₂.vm).setTop g).pushFrame (.throwing q))
    rw [← hs₂]
    exact hsteps
end Payer
section Calls
variable {p : Program} {l : Launch} {e : Env} {R : Room} {s : State} {m : MethodId} {args : Array Value} {below : List Frame} {meth : Method} {c : Code} {T : State} {locs : List Loc} {cells slots : Nat}
theorem vx_callV (X : Stand p l e R s m args below meth c T locs cells slots) (hexec : p.tables.exec = Jvm.exec) {own C : String} {index : Nat} {y : MethodName} {bytes : ByteArray} {maxL : Nat} {ret : Option FieldType}
    (hown : s.vm.findClass own = some m.cls) (hlink : (Cond.methodLink own index y).before args s = true) (hinst : (Cond.instanceMethod y).before args s = true) (hsel : (Cond.selects C y y).before args s = true)
    (hcode : (Cond.code y bytes maxL ret).before args s = true) (hy : y.cls ≠ "java/lang/invoke/MethodHandle" ∧ y.cls ≠ "java/lang/invoke/VarHandle")
    {W9 : Nat} {Pre : Pt → Array Value → Prop} {Post : Pt → Array Value → Option Value → Pt → Prop} {PostX : Pt → Array Value → Addr → Pt → Prop} (hK : vx_Back l R p e below s args y 3 W9 Pre Post PostX)
    {b : Addr} {cellB : Cell} (hcell : T.heap[b]? = some cellB) (hobj : cellB.vm.isStatics = false) (hcls : s.vm.findClass C = some cellB.cls)
    {g : JFrame} (hg : g.method = m) (hsize : g.locals.size = c.maxLocals) {argsL rest : List Value} (hlen : ∀ sig, parseMethodDescriptor y.desc = some sig → argsL.length = sig.parameters.length)
    (hstack : g.stack = argsL.reverse ++ .ref b :: rest) (hW : 2 * g.monitorRoom + (rest.map fun v => v.category).sum ≤ W9) (hdg : decode c.code g.pc = .ok (.invokevirtual index, 3))
    (hpre : ∀ vm₁, s.WarmedH vm₁ → Pre ⟨T.setVm vm₁, locs, cells, slots⟩ (Value.ref b :: argsL).toArray) :
    (∃ (v : Option Value) (vm₁ : Vm) (B : Pt), s.WarmedH vm₁ ∧ Stand p l e R s m args below meth c B.U B.locs B.cells B.slots ∧ Post ⟨T.setVm vm₁, locs, cells, slots⟩ (Value.ref b :: argsL).toArray v B ∧
      ∀ target, Steps p.tables e below (B.U.setTop { g with pc := g.pc + 3, stack := v.toList ++ rest }) target → Steps p.tables e below (T.setTop g) target) ∨
    (∃ (q : Addr) (vm₁ : Vm) (B : Pt), s.WarmedH vm₁ ∧ Stand p l e R s m args below meth c B.U B.locs B.cells B.slots ∧ PostX ⟨T.setVm vm₁, locs, cells, slots⟩ (Value.ref b :: argsL).toArray q B ∧
      Steps p.tables e below (T.setTop g) ((B.U.setTop { g with stack := rest }).pushFrame (.throwing q))) := by
  obtain ⟨mk, methM, hnamed, hmethM, hstM, habM⟩ := Cond.instanceMethod_spec hinst
  obtain ⟨methM', cM, hmethM', -, -, -, -, -, -, hsigM⟩ := Cond.code_spec hnamed hcode
  cases hmethM.symm.trans hmethM'
  obtain ⟨c2, r2, m2, q1, q2, q3, q4, kP, hkP, hkPi⟩ := Cond.selects_spec hsel
  cases hcls.symm.trans q1
  cases (State.methodFound?_of_named hnamed hy).symm.trans q2
  cases hnamed.symm.trans q3
  have hselP : selectMethod e.platform s.vm cellB.cls mk = .method mk := by rw [Launch.admits_selectMethod X.admits]; exact q4
  obtain ⟨vm₁, X₁, hstep₁⟩ := X.invokevirtual hexec hown hlink hnamed hmethM hstM hkP hkPi hy (a := b) (cell := cellB) hcell
    (fun z h => by rw [h] at hobj; cases hobj) hselP hmethM habM hkP hkPi (g := g) hg (argsL := argsL) (rest := rest) (hlen _ hsigM) hstack hdg
  rcases hK m meth c ⟨T.setVm vm₁, locs, cells, slots⟩ { g with stack := rest } (.invokevirtual index) mk (Value.ref b :: argsL).toArray X₁ hg hsize hdg hW (X₁.named hnamed) (hpre vm₁ X₁.warmed) with ⟨v, B, X', hpost, hsteps⟩ | ⟨q, B, X', hpost, hsteps⟩
  · exact Or.inl ⟨v, vm₁, B, X₁.warmed, X', hpost, fun target h => hstep₁ _ fun acts => by rw [doInvoke_state]; exact hsteps.trans h⟩
  · exact Or.inr ⟨q, vm₁, B, X₁.warmed, X', hpost, hstep₁ _ fun acts => by rw [doInvoke_state]; exact hsteps⟩
theorem vx_callS (X : Stand p l e R s m args below meth c T locs cells slots) (hexec : p.tables.exec = Jvm.exec) {own : String} {index : Nat} {y : MethodName} {bytes : ByteArray} {maxL : Nat} {ret : Option FieldType}
    (hown : s.vm.findClass own = some m.cls) (hlink : (Cond.methodLink own index y).before args s = true) (hstat : (Cond.static y).before args s = true) (hinit : (Cond.initialized y.cls).before args s = true)
    (hcode : (Cond.code y bytes maxL ret).before args s = true) (hy : y.cls ≠ "java/lang/invoke/MethodHandle" ∧ y.cls ≠ "java/lang/invoke/VarHandle")
    {W9 : Nat} {Pre : Pt → Array Value → Prop} {Post : Pt → Array Value → Option Value → Pt → Prop} {PostX : Pt → Array Value → Addr → Pt → Prop} (hK : vx_Back l R p e below s args y 3 W9 Pre Post PostX)
    {g : JFrame} (hg : g.method = m) (hsize : g.locals.size = c.maxLocals) {argsL rest : List Value} (hlen : ∀ sig, parseMethodDescriptor y.desc = some sig → argsL.length = sig.parameters.length)
    (hstack : g.stack = argsL.reverse ++ rest) (hW : 2 * g.monitorRoom + (rest.map fun v => v.category).sum ≤ W9) (hdg : decode c.code g.pc = .ok (.invokestatic index, 3))
    (hpre : ∀ vm₁, s.WarmedH vm₁ → Pre ⟨T.setVm vm₁, locs, cells, slots⟩ argsL.toArray) :
    (∃ (v : Option Value) (vm₁ : Vm) (B : Pt), s.WarmedH vm₁ ∧ Stand p l e R s m args below meth c B.U B.locs B.cells B.slots ∧ Post ⟨T.setVm vm₁, locs, cells, slots⟩ argsL.toArray v B ∧
      ∀ target, Steps p.tables e below (B.U.setTop { g with pc := g.pc + 3, stack := v.toList ++ rest }) target → Steps p.tables e below (T.setTop g) target) ∨
    (∃ (q : Addr) (vm₁ : Vm) (B : Pt), s.WarmedH vm₁ ∧ Stand p l e R s m args below meth c B.U B.locs B.cells B.slots ∧ PostX ⟨T.setVm vm₁, locs, cells, slots⟩ argsL.toArray q B ∧
      Steps p.tables e below (T.setTop g) ((B.U.setTop { g with stack := rest }).pushFrame (.throwing q))) := by
  obtain ⟨mk, hnamed⟩ := Cond.code_named hcode
  obtain ⟨methM, cM, hmethM, -, -, -, -, -, -, hsigM⟩ := Cond.code_spec hnamed hcode
  have hstatic : methM.isStatic = true := Cond.static_spec hnamed hmethM hstat
  obtain ⟨kP, hkP, -⟩ := className_of_methodNamed hnamed
  have hinitP : kP.init = .initialized := Cond.initialized_spec (findClass_of_methodNamed hnamed) hkP hinit
  obtain ⟨vm₁, X₁, hstep₁⟩ := X.invokestatic hexec hown hlink hnamed hmethM hstatic hkP hinitP hy (g := g) hg (argsL := argsL) (rest := rest) (hlen _ hsigM) hstack hdg
  rcases hK m meth c ⟨T.setVm vm₁, locs, cells, slots⟩ { g with stack := rest } (.invokestatic index) mk argsL.toArray X₁ hg hsize hdg hW (X₁.named hnamed) (hpre vm₁ X₁.warmed) with ⟨v, B, X', hpost, hsteps⟩ | ⟨q, B, X', hpost, hsteps⟩
  · exact Or.inl ⟨v, vm₁, B, X₁.warmed, X', hpost, fun target h => hstep₁ _ fun acts => by rw [doInvoke_state]; exact hsteps.trans h⟩
  · exact Or.inr ⟨q, vm₁, B, X₁.warmed, X', hpost, hstep₁ _ fun acts => by rw [doInvoke_state]; exact hsteps⟩
end Calls
theorem vx_cls {s : State} {T : State} {vm₁ : Vm} {E : String} {k : ClassId} (hW : s.WarmedH vm₁) (h : (T.setVm vm₁).vm.findClass E = some k) : s.vm.findClass E = some k := by
  have h1 : vm₁.findClass E = some k := h
  rw [hW.alike.findClass] at h1
  exact h1
/-- the method's frame g, with q thrown over it -/
def vx_W (p : Program) (l : Launch) (e : Env) (R : Room) (s : State) (m : MethodId) (args : Array Value) (below : List Frame) (meth : Method) (c : Code) (H : Heap) (locs : List Loc) (cells slots : Nat) (Q : State → Prop) (g : JFrame) (q : Addr) : Prop :=
  ∀ T : State, T.heap = H → Stand p l e R s m args below meth c T locs cells slots → ∃ t, Steps p.tables e below ((T.setTop g).pushFrame (.throwing q)) t ∧ Q t
def vx_Run (p : Program) (l : Launch) (e : Env) (R : Room) (s : State) (m : MethodId) (args : Array Value) (below : List Frame) (meth : Method) (c : Code) (H : Heap) (locs : List Loc) (cells slots mc ms : Nat) (g : JFrame) (rest : List Value) (Qa : State → Outcome → State → Prop) (XC : String → State → State → Prop) (free : Addr → Prop) : Prop :=
  ∀ T : State, T.heap = H → Stand p l e R s m args below meth c T locs cells slots →
    (∃ (v : Option Value) (st₀ t T' : State) (L : List Loc), st₀.heap = H ∧ Stand p l e R s m args below meth c T' (locs ++ L) (cells + mc) (slots + ms) ∧ (∀ q ∈ L, free q.base) ∧ T'.heap = t.heap ∧ T'.vm = t.vm ∧ Qa st₀ (.returned v) t ∧
      Goes p e below T g T' { g with pc := g.pc + 3, stack := v.toList ++ rest }) ∨
    (∃ (q : Addr) (st₀ t T' : State) (L : List Loc) (E : String) (ce : Cell), st₀.heap = H ∧ Stand p l e R s m args below meth c T' (locs ++ L) (cells + mc) (slots + ms) ∧ (∀ z ∈ L, free z.base) ∧ T'.heap = t.heap ∧ T'.vm = t.vm ∧ XC E st₀ t ∧ t.heap[q]? = some ce ∧ ce.vm = .none ∧ s.vm.findClass E = some ce.cls ∧
      Steps p.tables e below (T.setTop g) ((T'.setTop { g with stack := rest }).pushFrame (.throwing q)))
def vx_X {S : Type} (px : S → Prop) (B : String → S → State → Prop) (A : Nat → Prop) : String → State → State → Prop := fun E st t => ∃ u : S, px u ∧ B E u t ∧ va_F A st t
section Runs
variable {p : Program} {l : Launch} {e : Env} {R : Room} {s : State} {m : MethodId} {args : Array Value} {below : List Frame} {meth : Method} {c : Code} {H : Heap} {locs : List Loc} {cells slots : Nat}
variable {y : MethodName} {bytes cc : ByteArray} {maxL nL mc ms n index : Nat} {ret : Option FieldType} {ws : List Cond} {rm : Room} {Pc : Array Value → State → Prop} {Qc : Array Value → State → Outcome → State → Prop} {XC : String → State → State → Prop} {free : Addr → Prop} {Ts : List Cond} {own C : String} {b : Addr} {As rest : List Value} {g : JFrame}
theorem vx_callBack (cb : CallB R s args own index y bytes maxL ret ws rm mc ms n) (hM : vx_Met l y ws rm Pc Qc XC mc ms free) (hbl : FrameBlind Pc) : vx_Back l R p e below s args y 3 8 (PreOf R mc ms Pc) (PostOf Qc mc ms free) (vx_Post XC mc ms free) := by
  obtain ⟨hrc, hrs, hfr, hlo, hws, hcw, -, hini, -⟩ := cb
  exact vx_back (bytes := bytes) (maxL := maxL) (ret := ret) hM hbl hrc hrs hfr hlo hws hcw (fun a' U hW => word_at hW (Or.inl (by first | rfl | simp [Cond.onTables, Cond.keeps, Cond.steady])) hini)
theorem vx_runV (S : CallFix p m c cc nL s args Ts own) (hM : vx_Met l y ws rm Pc Qc XC mc ms free) (cw : CallW R s args own C index y bytes maxL ret ws rm mc ms n) (hp : PreV s H C b Pc As)
    (hg : g.method = m) (hn : As.length = n) (hsize : g.locals.size = nL) (hstack : g.stack = As.reverse ++ .ref b :: rest) (hW : 2 * g.monitorRoom + (rest.map fun v => v.category).sum ≤ 8) (hdg : decode cc g.pc = .ok (.invokevirtual index, 3)) (hf : cells + mc ≤ R.cells ∧ slots + ms ≤ R.slots) :
    vx_Run p l e R s m args below meth c H locs cells slots mc ms g rest (Qc (Value.ref b :: As).toArray) XC free := by
  have hK : vx_Back l R p e below s args y 3 8 (PreOf R mc ms Pc) (PostOf Qc mc ms free) (vx_Post XC mc ms free) := vx_callBack cw.1 hM hp.1
  obtain ⟨⟨-, -, -, -, -, -, hcode, -, hy, hlen, hl⟩, hin, hse⟩ := cw
  obtain ⟨hx, hb, hml, ho, -⟩ := S
  obtain ⟨-, ⟨cellB, hcB, hoB, hclB⟩, hPc⟩ := hp
  intro T hT X
  rcases vx_callV X hx (C := C) (bytes := bytes) (maxL := maxL) (ret := ret) ho hl hin hse hcode hy hK (by rw [hT]; exact hcB) hoB hclB hg (hsize.trans hml.symm) (argsL := As) (rest := rest) (fun sig h => hn.trans (hlen sig h)) hstack hW (by rw [hb]; exact hdg)
    (fun vm₁ hW₁ => ⟨hf.1, hf.2, hPc (T.setVm vm₁) hT hW₁⟩) with ⟨v, vm₁, ⟨U', l2, c2, s2⟩, hW₁, X', ⟨g', mk, t, L, e1, e2, hq, h1, hL, h2, h3⟩, st⟩ | ⟨q, vm₁, ⟨U', l2, c2, s2⟩, hW₁, X', ⟨g', mk, t, L, E, ce, e1, e2, hq, hce, hcv, hcl, h1, hL, h2, h3⟩, st⟩
  · dsimp only [Pt.U, Pt.locs, Pt.cells, Pt.slots] at X' e1 e2 h1 h2 h3 st
    subst h1; subst h2; subst h3
    exact Or.inl ⟨v, (T.setVm vm₁).calling g' mk (Value.ref b :: As).toArray, t, U', L, hT, X', hL, e1, e2, hq, st⟩
  · dsimp only [Pt.U, Pt.locs, Pt.cells, Pt.slots] at X' e1 e2 h1 h2 h3 st hcl
    subst h1; subst h2; subst h3
    exact Or.inr ⟨q, (T.setVm vm₁).calling g' mk (Value.ref b :: As).toArray, t, U', L, E, ce, hT, X', hL, e1, e2, hq, hce, hcv, vx_cls hW₁ hcl, st⟩
theorem vx_runS (S : CallFix p m c cc nL s args Ts own) (hM : vx_Met l y ws rm Pc Qc XC mc ms free) (cw : CallB R s args own index y bytes maxL ret ws rm mc ms n ∧ (Cond.static y).before args s = true) (hp : PreS s H Pc As)
    (hg : g.method = m) (hn : As.length = n) (hsize : g.locals.size = nL) (hstack : g.stack = As.reverse ++ rest) (hW : 2 * g.monitorRoom + (rest.map fun v => v.category).sum ≤ 8) (hdg : decode cc g.pc = .ok (.invokestatic index, 3)) (hf : cells + mc ≤ R.cells ∧ slots + ms ≤ R.slots) :
    vx_Run p l e R s m args below meth c H locs cells slots mc ms g rest (Qc As.toArray) XC free := by
  have hK : vx_Back l R p e below s args y 3 8 (PreOf R mc ms Pc) (PostOf Qc mc ms free) (vx_Post XC mc ms free) := vx_callBack cw.1 hM hp.1
  obtain ⟨⟨-, -, -, -, -, -, hcode, hini, hy, hlen, hl⟩, hstt⟩ := cw
  obtain ⟨hx, hb, hml, ho, -⟩ := S
  intro T hT X
  rcases vx_callS X hx (bytes := bytes) (maxL := maxL) (ret := ret) ho hl hstt hini hcode hy hK hg (hsize.trans hml.symm) (argsL := As) (rest := rest) (fun sig h => hn.trans (hlen sig h)) hstack hW (by rw [hb]; exact hdg)
    (fun vm₁ hW₁ => ⟨hf.1, hf.2, hp.2 (T.setVm vm₁) hT hW₁⟩) with ⟨v, vm₁, ⟨U', l2, c2, s2⟩, hW₁, X', ⟨g', mk, t, L, e1, e2, hq, h1, hL, h2, h3⟩, st⟩ | ⟨q, vm₁, ⟨U', l2, c2, s2⟩, hW₁, X', ⟨g', mk, t, L, E, ce, e1, e2, hq, hce, hcv, hcl, h1, hL, h2, h3⟩, st⟩
  · dsimp only [Pt.U, Pt.locs, Pt.cells, Pt.slots] at X' e1 e2 h1 h2 h3 st
    subst h1; subst h2; subst h3
    exact Or.inl ⟨v, (T.setVm vm₁).calling g' mk As.toArray, t, U', L, hT, X', hL, e1, e2, hq, st⟩
  · dsimp only [Pt.U, Pt.locs, Pt.cells, Pt.slots] at X' e1 e2 h1 h2 h3 st hcl
    subst h1; subst h2; subst h3
    exact Or.inr ⟨q, (T.setVm vm₁).calling g' mk As.toArray, t, U', L, E, ce, hT, X', hL, e1, e2, hq, hce, hcv, vx_cls hW₁ hcl, st⟩
end Runs
section Rows
variable {p : Program} {l : Launch} {e : Env} {R : Room} {s : State} {m : MethodId} {args : Array Value} {below : List Frame} {meth : Method} {c : Code} {H : Heap} {locs : List Loc} {cells slots : Nat} {Q : State → Prop}
variable {mc ms : Nat} {free : Addr → Prop} {A0 A1 : Nat → Prop} {H0 : Heap} {a : Array Value} {pc : Nat} {ls : Array Slot} {st0 rest : List Value}
theorem vx_keep {st₀ t T' : State} {L : List Loc} (h0 : st₀.heap = H) (e1 : T'.heap = t.heap) (hS : va_S A0 H0 H locs) (hA : ∀ q, q < H.size → A1 q → A0 q) (hf : ∀ q, free q → A0 q) (hL : ∀ q ∈ L, free q.base) (hF : va_F A1 st₀ t) :
    H.size ≤ T'.heap.size ∧ (∀ q : Nat, q < H.size → ¬ A1 q → T'.heap[q]? = H[q]?) ∧ va_S A0 H0 T'.heap (locs ++ L) := by
  obtain ⟨hz, hk⟩ := hF
  rw [h0] at hz hk
  exact ⟨by rw [e1]; exact hz, fun q h1 h2 => by rw [e1]; exact hk q h1 h2,
    ⟨Nat.le_trans hS.1 (by rw [e1]; exact hz), fun q h1 h2 => by rw [e1, hk q (Nat.lt_of_lt_of_le h1 hS.1) (fun z => h2 (hA q (Nat.lt_of_lt_of_le h1 hS.1) z))]; exact hS.2.1 q h1 h2, fun q hq => by
      rcases List.mem_append.mp hq with h | h
      · exact hS.2.2 q h
      · exact hf _ (hL q h)⟩⟩
theorem vx_calli {S SX : Type} {post : Int32 → S → Prop} {px : SX → Prop} {B : S → State → Prop} {BX : String → SX → State → Prop} {AX : Nat → Prop} (hr : vx_Run p l e R s m args below meth c H locs cells slots mc ms (F0 m pc ls st0) rest (va_Qi post B A1 a) (vx_X px BX AX) free) (hS : va_S A0 H0 H locs) (hA : ∀ q, q < H.size → A1 q → A0 q) (hf : ∀ q, free q → A0 q) (hAX : ∀ q, q < H.size → AX q → A0 q)
    (kx : ∀ (E : String) (ce : Cell) (q9 : Addr) (u : SX) (t : State) (H1 : Heap) (locs1 : List Loc), t.heap = H1 → s.vm.Alike t.vm → px u → BX E u t → H.size ≤ H1.size → (∀ q : Nat, q < H.size → ¬ AX q → H1[q]? = H[q]?) → va_S A0 H0 H1 locs1 → H1[q9]? = some ce → ce.vm = .none → s.vm.findClass E = some ce.cls → vx_W p l e R s m args below meth c H1 locs1 (cells + mc) (slots + ms) Q (F0 m pc ls rest) q9)
    (kk : ∀ (r : Int32) (u : S) (t : State) (H1 : Heap) (locs1 : List Loc), t.heap = H1 → s.vm.Alike t.vm → post r u → B u t → H.size ≤ H1.size → (∀ q : Nat, q < H.size → ¬ A1 q → H1[q]? = H[q]?) → va_S A0 H0 H1 locs1 → W p l e R s m args below meth c H1 locs1 (cells + mc) (slots + ms) Q (F0 m (pc + 3) ls (.int r :: rest))) : W p l e R s m args below meth c H locs cells slots Q (F0 m pc ls st0) := by
  intro T hT X
  rcases hr T hT X with ⟨v, st₀, t, T', L, h0, X', hL, e1, e2, ⟨⟨r, u, hv, hp, hb⟩, hF⟩, st⟩ | ⟨q, st₀, t, T', L, E, ce, h0, X', hL, e1, e2, ⟨u, hp, hb, hF⟩, hce, hcv, hcl, st⟩
  · cases hv
    obtain ⟨k1, k2, k3⟩ := vx_keep h0 e1 hS hA hf hL hF
    obtain ⟨t2, a1, b1⟩ := kk r u t T'.heap (locs ++ L) e1.symm (by rw [← e2]; exact X'.warmed.alike) hp hb k1 k2 k3 T' rfl X'
    exact ⟨t2, st t2 a1, b1⟩
  · obtain ⟨k1, k2, k3⟩ := vx_keep h0 e1 hS hAX hf hL hF
    obtain ⟨t2, a1, b1⟩ := kx E ce q u t T'.heap (locs ++ L) e1.symm (by rw [← e2]; exact X'.warmed.alike) hp hb k1 k2 k3 (by rw [e1]; exact hce) hcv hcl T' rfl X'
    exact ⟨t2, st.trans a1, b1⟩
theorem vx_calll {S SX : Type} {post : Int64 → S → Prop} {px : SX → Prop} {B : S → State → Prop} {BX : String → SX → State → Prop} {AX : Nat → Prop} (hr : vx_Run p l e R s m args below meth c H locs cells slots mc ms (F0 m pc ls st0) rest (va_Ql post B A1 a) (vx_X px BX AX) free) (hS : va_S A0 H0 H locs) (hA : ∀ q, q < H.size → A1 q → A0 q) (hf : ∀ q, free q → A0 q) (hAX : ∀ q, q < H.size → AX q → A0 q)
    (kx : ∀ (E : String) (ce : Cell) (q9 : Addr) (u : SX) (t : State) (H1 : Heap) (locs1 : List Loc), t.heap = H1 → s.vm.Alike t.vm → px u → BX E u t → H.size ≤ H1.size → (∀ q : Nat, q < H.size → ¬ AX q → H1[q]? = H[q]?) → va_S A0 H0 H1 locs1 → H1[q9]? = some ce → ce.vm = .none → s.vm.findClass E = some ce.cls → vx_W p l e R s m args below meth c H1 locs1 (cells + mc) (slots + ms) Q (F0 m pc ls rest) q9)
    (kk : ∀ (r : Int64) (u : S) (t : State) (H1 : Heap) (locs1 : List Loc), t.heap = H1 → s.vm.Alike t.vm → post r u → B u t → H.size ≤ H1.size → (∀ q : Nat, q < H.size → ¬ A1 q → H1[q]? = H[q]?) → va_S A0 H0 H1 locs1 → W p l e R s m args below meth c H1 locs1 (cells + mc) (slots + ms) Q (F0 m (pc + 3) ls (.long r :: rest))) : W p l e R s m args below meth c H locs cells slots Q (F0 m pc ls st0) := by
  intro T hT X
  rcases hr T hT X with ⟨v, st₀, t, T', L, h0, X', hL, e1, e2, ⟨⟨r, u, hv, hp, hb⟩, hF⟩, st⟩ | ⟨q, st₀, t, T', L, E, ce, h0, X', hL, e1, e2, ⟨u, hp, hb, hF⟩, hce, hcv, hcl, st⟩
  · cases hv
    obtain ⟨k1, k2, k3⟩ := vx_keep h0 e1 hS hA hf hL hF
    obtain ⟨t2, a1, b1⟩ := kk r u t T'.heap (locs ++ L) e1.symm (by rw [← e2]; exact X'.warmed.alike) hp hb k1 k2 k3 T' rfl X'
    exact ⟨t2, st t2 a1, b1⟩
  · obtain ⟨k1, k2, k3⟩ := vx_keep h0 e1 hS hAX hf hL hF
    obtain ⟨t2, a1, b1⟩ := kx E ce q u t T'.heap (locs ++ L) e1.symm (by rw [← e2]; exact X'.warmed.alike) hp hb k1 k2 k3 (by rw [e1]; exact hce) hcv hcl T' rfl X'
    exact ⟨t2, st.trans a1, b1⟩
theorem vx_callf {S SX : Type} {post : UInt32 → S → Prop} {px : SX → Prop} {B : S → State → Prop} {BX : String → SX → State → Prop} {AX : Nat → Prop} (hr : vx_Run p l e R s m args below meth c H locs cells slots mc ms (F0 m pc ls st0) rest (va_Qf post B A1 a) (vx_X px BX AX) free) (hS : va_S A0 H0 H locs) (hA : ∀ q, q < H.size → A1 q → A0 q) (hf : ∀ q, free q → A0 q) (hAX : ∀ q, q < H.size → AX q → A0 q)
    (kx : ∀ (E : String) (ce : Cell) (q9 : Addr) (u : SX) (t : State) (H1 : Heap) (locs1 : List Loc), t.heap = H1 → s.vm.Alike t.vm → px u → BX E u t → H.size ≤ H1.size → (∀ q : Nat, q < H.size → ¬ AX q → H1[q]? = H[q]?) → va_S A0 H0 H1 locs1 → H1[q9]? = some ce → ce.vm = .none → s.vm.findClass E = some ce.cls → vx_W p l e R s m args below meth c H1 locs1 (cells + mc) (slots + ms) Q (F0 m pc ls rest) q9)
    (kk : ∀ (r : UInt32) (u : S) (t : State) (H1 : Heap) (locs1 : List Loc), t.heap = H1 → s.vm.Alike t.vm → post r u → B u t → H.size ≤ H1.size → (∀ q : Nat, q < H.size → ¬ A1 q → H1[q]? = H[q]?) → va_S A0 H0 H1 locs1 → W p l e R s m args below meth c H1 locs1 (cells + mc) (slots + ms) Q (F0 m (pc + 3) ls (.float r :: rest))) : W p l e R s m args below meth c H locs cells slots Q (F0 m pc ls st0) := by
  intro T hT X
  rcases hr T hT X with ⟨v, st₀, t, T', L, h0, X', hL, e1, e2, ⟨⟨r, u, hv, hp, hb⟩, hF⟩, st⟩ | ⟨q, st₀, t, T', L, E, ce, h0, X', hL, e1, e2, ⟨u, hp, hb, hF⟩, hce, hcv, hcl, st⟩
  · cases hv
    obtain ⟨k1, k2, k3⟩ := vx_keep h0 e1 hS hA hf hL hF
    obtain ⟨t2, a1, b1⟩ := kk r u t T'.heap (locs ++ L) e1.symm (by rw [← e2]; exact X'.warmed.alike) hp hb k1 k2 k3 T' rfl X'
    exact ⟨t2, st t2 a1, b1⟩
  · obtain ⟨k1, k2, k3⟩ := vx_keep h0 e1 hS hAX hf hL hF
    obtain ⟨t2, a1, b1⟩ := kx E ce q u t T'.heap (locs ++ L) e1.symm (by rw [← e2]; exact X'.warmed.alike) hp hb k1 k2 k3 (by rw [e1]; exact hce) hcv hcl T' rfl X'
    exact ⟨t2, st.trans a1, b1⟩
theorem vx_calld {S SX : Type} {post : UInt64 → S → Prop} {px : SX → Prop} {B : S → State → Prop} {BX : String → SX → State → Prop} {AX : Nat → Prop} (hr : vx_Run p l e R s m args below meth c H locs cells slots mc ms (F0 m pc ls st0) rest (va_Qd post B A1 a) (vx_X px BX AX) free) (hS : va_S A0 H0 H locs) (hA : ∀ q, q < H.size → A1 q → A0 q) (hf : ∀ q, free q → A0 q) (hAX : ∀ q, q < H.size → AX q → A0 q)
    (kx : ∀ (E : String) (ce : Cell) (q9 : Addr) (u : SX) (t : State) (H1 : Heap) (locs1 : List Loc), t.heap = H1 → s.vm.Alike t.vm → px u → BX E u t → H.size ≤ H1.size → (∀ q : Nat, q < H.size → ¬ AX q → H1[q]? = H[q]?) → va_S A0 H0 H1 locs1 → H1[q9]? = some ce → ce.vm = .none → s.vm.findClass E = some ce.cls → vx_W p l e R s m args below meth c H1 locs1 (cells + mc) (slots + ms) Q (F0 m pc ls rest) q9)
    (kk : ∀ (r : UInt64) (u : S) (t : State) (H1 : Heap) (locs1 : List Loc), t.heap = H1 → s.vm.Alike t.vm → post r u → B u t → H.size ≤ H1.size → (∀ q : Nat, q < H.size → ¬ A1 q → H1[q]? = H[q]?) → va_S A0 H0 H1 locs1 → W p l e R s m args below meth c H1 locs1 (cells + mc) (slots + ms) Q (F0 m (pc + 3) ls (.double r :: rest))) : W p l e R s m args below meth c H locs cells slots Q (F0 m pc ls st0) := by
  intro T hT X
  rcases hr T hT X with ⟨v, st₀, t, T', L, h0, X', hL, e1, e2, ⟨⟨r, u, hv, hp, hb⟩, hF⟩, st⟩ | ⟨q, st₀, t, T', L, E, ce, h0, X', hL, e1, e2, ⟨u, hp, hb, hF⟩, hce, hcv, hcl, st⟩
  · cases hv
    obtain ⟨k1, k2, k3⟩ := vx_keep h0 e1 hS hA hf hL hF
    obtain ⟨t2, a1, b1⟩ := kk r u t T'.heap (locs ++ L) e1.symm (by rw [← e2]; exact X'.warmed.alike) hp hb k1 k2 k3 T' rfl X'
    exact ⟨t2, st t2 a1, b1⟩
  · obtain ⟨k1, k2, k3⟩ := vx_keep h0 e1 hS hAX hf hL hF
    obtain ⟨t2, a1, b1⟩ := kx E ce q u t T'.heap (locs ++ L) e1.symm (by rw [← e2]; exact X'.warmed.alike) hp hb k1 k2 k3 (by rw [e1]; exact hce) hcv hcl T' rfl X'
    exact ⟨t2, st.trans a1, b1⟩
theorem vx_callv {S SX : Type} {post : S → Prop} {px : SX → Prop} {B : S → State → Prop} {BX : String → SX → State → Prop} {AX : Nat → Prop} (hr : vx_Run p l e R s m args below meth c H locs cells slots mc ms (F0 m pc ls st0) rest (va_Qv post B A1 a) (vx_X px BX AX) free) (hS : va_S A0 H0 H locs) (hA : ∀ q, q < H.size → A1 q → A0 q) (hf : ∀ q, free q → A0 q) (hAX : ∀ q, q < H.size → AX q → A0 q)
    (kx : ∀ (E : String) (ce : Cell) (q9 : Addr) (u : SX) (t : State) (H1 : Heap) (locs1 : List Loc), t.heap = H1 → s.vm.Alike t.vm → px u → BX E u t → H.size ≤ H1.size → (∀ q : Nat, q < H.size → ¬ AX q → H1[q]? = H[q]?) → va_S A0 H0 H1 locs1 → H1[q9]? = some ce → ce.vm = .none → s.vm.findClass E = some ce.cls → vx_W p l e R s m args below meth c H1 locs1 (cells + mc) (slots + ms) Q (F0 m pc ls rest) q9)
    (kk : ∀ (u : S) (t : State) (H1 : Heap) (locs1 : List Loc), t.heap = H1 → s.vm.Alike t.vm → post u → B u t → H.size ≤ H1.size → (∀ q : Nat, q < H.size → ¬ A1 q → H1[q]? = H[q]?) → va_S A0 H0 H1 locs1 → W p l e R s m args below meth c H1 locs1 (cells + mc) (slots + ms) Q (F0 m (pc + 3) ls (rest))) : W p l e R s m args below meth c H locs cells slots Q (F0 m pc ls st0) := by
  intro T hT X
  rcases hr T hT X with ⟨v, st₀, t, T', L, h0, X', hL, e1, e2, ⟨⟨u, hv, hp, hb⟩, hF⟩, st⟩ | ⟨q, st₀, t, T', L, E, ce, h0, X', hL, e1, e2, ⟨u, hp, hb, hF⟩, hce, hcv, hcl, st⟩
  · cases hv
    obtain ⟨k1, k2, k3⟩ := vx_keep h0 e1 hS hA hf hL hF
    obtain ⟨t2, a1, b1⟩ := kk u t T'.heap (locs ++ L) e1.symm (by rw [← e2]; exact X'.warmed.alike) hp hb k1 k2 k3 T' rfl X'
    exact ⟨t2, st t2 a1, b1⟩
  · obtain ⟨k1, k2, k3⟩ := vx_keep h0 e1 hS hAX hf hL hF
    obtain ⟨t2, a1, b1⟩ := kx E ce q u t T'.heap (locs ++ L) e1.symm (by rw [← e2]; exact X'.warmed.alike) hp hb k1 k2 k3 (by rw [e1]; exact hce) hcv hcl T' rfl X'
    exact ⟨t2, st.trans a1, b1⟩
/-- caught by the row x of this method's table; the rows ahead don't take it -/
theorem vx_catch {own name : String} {E : String} {ce : Cell} {q : Addr} (hown : s.vm.findClass own = some m.cls) (pre : List ExceptionTableEntry) (x : ExceptionTableEntry) (suf : List ExceptionTableEntry) (hsplit : c.exceptionTable.toList = pre ++ x :: suf)
    (hpass : ∀ z ∈ pre, covers z pc = false ∨ (z.catchType ≠ 0 ∧ ∃ nm : String, (Cond.classLink own z.catchType nm).before args s = true ∧ va_Nc E nm s)) (hx : covers x pc = true) (h0 : x.catchType ≠ 0)
    (hlink : (Cond.classLink own x.catchType name).before args s = true) (hcast : (Cond.castable E name).before args s = true) (hcell : H[q]? = some ce) (hv : ce.vm = .none) (hcl : s.vm.findClass E = some ce.cls)
    (kk : W p l e R s m args below meth c H locs cells slots Q (F0 m x.handlerPc ls [.ref q])) : vx_W p l e R s m args below meth c H locs cells slots Q (F0 m pc ls rest) q := by
  intro T hT X
  have hpl : e.platform.magicAccessors = ({} : Platform).magicAccessors := by rw [X.admits.platform]
  obtain ⟨c3, c4, hc3, hc4, hasg⟩ := Cond.castable_spec hcast
  cases Option.some.inj (hc3.symm.trans hcl)
  obtain ⟨c5, hc5, hcl5⟩ := Cond.classLink_spec hown hlink e.platform hpl
  cases Option.some.inj (hc4.symm.trans hc5)
  obtain ⟨vm', X', st⟩ := X.thenCaughtThrough q (g := F0 m pc ls rest) rfl (Steps.refl _) (by rw [hT]; exact hcell) (by rw [hv]; rfl) (by obtain ⟨k9, h9, -⟩ := Vm.findClass_spec hcl; exact ⟨k9, h9⟩) pre x suf hsplit
    (fun z hz => by
      rcases hpass z hz with h | ⟨hz0, nm, hl1, hn1⟩
      · exact Or.inl h
      · obtain ⟨c6, hc6, hcl6⟩ := Cond.classLink_spec hown hl1 e.platform hpl
        obtain ⟨a8, b8, h1, h2, h3⟩ := hn1
        cases Option.some.inj (h1.symm.trans hcl)
        cases Option.some.inj (h2.symm.trans hc6)
        exact Or.inr ⟨hz0, _, hcl6, h3⟩) hx (Or.inr ⟨h0, c4, hcl5, hasg⟩)
  obtain ⟨t, a1, b1⟩ := kk (T.setVm vm') hT X'
  exact ⟨t, st.trans a1, b1⟩
end Rows
section Ends
variable {p : Program} {l : Launch} {e : Env} {R : Room} {s : State} {m : MethodId} {args : Array Value} {below : List Frame} {meth : Method} {c : Code} {H : Heap} {locs : List Loc} {cells slots : Nat} {Q : State → Prop}
variable {mc ms : Nat} {free : Addr → Prop} {A0 A1 : Nat → Prop} {H0 : Heap} {a : Array Value} {ls : Array Slot} {st0 rest : List Value}
variable {Qc : Array Value → State → Outcome → State → Prop} {XC : String → State → State → Prop}
/-- what a body that may throw owes at its end -/
def vx_MQ (below : List Frame) (Qc : Array Value → State → Outcome → State → Prop) (XC : String → State → State → Prop) (a : Array Value) (s : State) (mc ms : Nat) (free : Addr → Prop) : State → Prop := fun t =>
  ∃ o, t.status = .running ∧ Ended t below o ∧ vx_Q Qc XC mc ms free a s o t
theorem vx_ret {g : JFrame} {mc ms : Nat} (k : W p l e R s m args below meth c H locs cells slots (MQ below Qc args s mc ms free) g) : W p l e R s m args below meth c H locs cells slots (vx_MQ below Qc XC args s mc ms free) g := by
  intro T hT X
  obtain ⟨t, a1, o, b1, b2, b3, b4⟩ := k T hT X
  exact ⟨t, a1, o, b1, b2, Or.inl ⟨b3, b4⟩⟩
/-- not caught here: it goes on to the caller -/
theorem vx_widen {g : JFrame} {q : Addr} {k n : Nat} (h1 : cells ≤ k) (h2 : slots ≤ n) (kk : vx_W p l e R s m args below meth c H locs k n Q g q) : vx_W p l e R s m args below meth c H locs cells slots Q g q := fun T hT X => kk T hT (stand_widen X h1 h2)
theorem vx_out {pc : Nat} {E : String} {ce : Cell} {q : Addr} {mc ms : Nat} (hout : ∀ x ∈ c.exceptionTable.toList, covers x pc = false) (hlocks : meth.locks = false) (hcell : H[q]? = some ce) (hv : ce.vm = .none) (hcl : s.vm.findClass E = some ce.cls)
    (hx : ∀ t : State, t.heap = H → s.vm.Alike t.vm → XC E s t) (hf : ∀ z ∈ locs, free z.base) (hc : cells ≤ mc) (hs : slots ≤ ms) :
    vx_W p l e R s m args below meth c H locs cells slots (vx_MQ below Qc XC args s mc ms free) (F0 m pc ls rest) q := by
  intro T hT X
  obtain ⟨st1, hrun, hend, hW, hsm⟩ := X.leaveThrown q (g := F0 m pc ls rest) rfl rfl rfl hout hlocks
  have hcell9 : (T.setFrames (.throwing q :: below)).heap[q]? = some ce := by
    show T.heap[q]? = some ce
    rw [hT]; exact hcell
  exact ⟨_, st1, .threw q, hrun, hend, Or.inr ⟨q, rfl, E, ce, locs, hx _ hT hW.alike, hcell9, hv, hcl, hW, hsm.mono hc hs, hf⟩⟩
theorem vx_frame {U : State} {k n : Nat} (h : s.sameButNew ({ U with vm := s.vm } : State) locs k n) : s.heap.size ≤ U.heap.size ∧ ∀ q : Nat, q < s.heap.size → (∀ z ∈ locs, z.base ≠ q) → U.heap[q]? = s.heap[q]? := by
  obtain ⟨-, h2, -, -, -, h6⟩ := h
  refine ⟨h2, fun q hq hz => ?_⟩
  obtain ⟨c9, e1, e2, e3, e4⟩ := h6 q _ (Array.getElem?_eq_getElem hq)
  have hs : c9.slots = (s.heap[q]).slots := Array.ext_getElem? fun i => e4 i fun hm => hz _ hm rfl
  have h9 : c9 = s.heap[q] := by
    rw [hs] at e2
    exact e2
  have e5 : U.heap[q]? = some c9 := e1
  rw [e5, h9, Array.getElem?_eq_getElem hq]
/-- the words of a throw but the four that speak of the heap -/
def vx_no (w : Cond) : Bool := decide (w ≠ .isRef (.static Bundle.tN "UNASSIGNED_STACK" Bundle.steD)) && decide (w ≠ .isRef (.static Bundle.tN "SUPPRESSED_SENTINEL" Bundle.listD)) && decide (w ≠ .laysStatic Bundle.tN "UNASSIGNED_STACK" Bundle.steD) && decide (w ≠ .laysStatic Bundle.tN "SUPPRESSED_SENTINEL" Bundle.listD)
def vx_at0 (own : String) (ic : Nat) (X : String) (names : List String) : List Cond := (Bundle.ownAtoms0 own ic X names).filter vx_no
def vx_atS (own : String) (ic : Nat) (X : String) (names : List String) : List Cond := (Bundle.ownAtoms own ic X names).filter vx_no
/-- a word that the tables alone decide, or a good one -/
def vx_ot (w : Cond) : Bool := w.onTables || goodWord w
theorem vx_ot_at {args a' : Array Value} {s U : State} {w : Cond} (hW : s.WarmedH U.vm) (hvm : s.vm = U.vm) (hg : vx_ot w = true) (h : w.before args s = true) : w.before a' U = true := by
  simp only [vx_ot, Bool.or_eq_true] at hg
  rcases hg with hg | hg
  · exact va_tabs hg hvm h
  · exact word_at hW (good_of_word hg) h
/-- a list's words: the good ones out of the method's own list, the others by premises of their own -/
theorem vx_hat {args : Array Value} {s : State} {L B : List Cond} (h1 : ∀ w ∈ L.filter goodWord, w.before args s = true) (h2 : ∀ w ∈ L.filter (fun w => !goodWord w), w ∈ B) (h3 : ∀ w ∈ B, w.before args s = true) : ∀ w ∈ L, w.before args s = true := by
  intro w hw
  by_cases g : goodWord w = true
  · exact h1 w (List.mem_filter.mpr ⟨hw, g⟩)
  · refine h3 w (h2 w (List.mem_filter.mpr ⟨hw, ?_⟩))
    show (!goodWord w) = true
    cases hgw : goodWord w
    · rfl
    · exact absurd hgw g
theorem vx_c {args : Array Value} {s : State} {w : Cond} {B : List Cond} (h : w.before args s = true) (t : ∀ w ∈ B, w.before args s = true) : ∀ w' ∈ w :: B, w'.before args s = true := fun w' h' => (List.mem_cons.mp h').elim (fun e => by rw [e]; exact h) (t w')
theorem vx_n {args : Array Value} {s : State} : ∀ w ∈ ([] : List Cond), w.before args s = true := fun _ h => nomatch h
theorem vx_own {args : Array Value} {s : State} {L : List Cond} (h1 : ∀ w ∈ L.filter vx_no, w.before args s = true)
    (hU : (Cond.isRef (.static Bundle.tN "UNASSIGNED_STACK" Bundle.steD)).before args s = true) (hN : (Cond.isRef (.static Bundle.tN "SUPPRESSED_SENTINEL" Bundle.listD)).before args s = true)
    (lU : (Cond.laysStatic Bundle.tN "UNASSIGNED_STACK" Bundle.steD).before args s = true) (lN : (Cond.laysStatic Bundle.tN "SUPPRESSED_SENTINEL" Bundle.listD).before args s = true) : ∀ w ∈ L, w.before args s = true := by
  intro w hw
  by_cases e1 : w = .isRef (.static Bundle.tN "UNASSIGNED_STACK" Bundle.steD)
  · rw [e1]; exact hU
  · by_cases e2 : w = .isRef (.static Bundle.tN "SUPPRESSED_SENTINEL" Bundle.listD)
    · rw [e2]; exact hN
    · by_cases e3 : w = .laysStatic Bundle.tN "UNASSIGNED_STACK" Bundle.steD
      · rw [e3]; exact lU
      · by_cases e4 : w = .laysStatic Bundle.tN "SUPPRESSED_SENTINEL" Bundle.listD
        · rw [e4]; exact lN
        · exact h1 w (List.mem_filter.mpr ⟨hw, by unfold vx_no; rw [decide_eq_true e1, decide_eq_true e2, decide_eq_true e3, decide_eq_true e4]; rfl⟩)
/-- where a static field lies, its class's statics cell in H -/
def vx_L (C n d : String) (A : Nat → Prop) (U : State) (H : Heap) : Prop := ∃ (c : ClassId) (k : Class) (i : Nat) (f : Field) (a : Nat) (cell : Cell), U.vm.findClass C = some c ∧ U.fieldFound? C n d = some (c, k, i, f) ∧ f.isStatic = true ∧ k.statics = some a ∧ H[a]? = some cell ∧ cell.vm.isStatics = true ∧ cell.cls = c ∧ f.slot < cell.slots.size ∧ k.staticTypes[f.slot]? = some f.type ∧ ¬ A a
theorem vx_L.moved {C n d : String} {A : Nat → Prop} {u U : State} {H : Heap} (hvm : u.vm.Alike U.vm) (h : vx_L C n d A u H) : vx_L C n d A U H := by
  obtain ⟨c, k, i, f, a, cell, h1, h2, h3, h4, h5, h6, h7, h8, h9, h10⟩ := h
  obtain ⟨k', hi', he⟩ := State.fieldFound?_setVm hvm h2
  exact ⟨c, k', i, f, a, cell, by rw [hvm.findClass]; exact h1, hi', h3, by rw [he]; exact h4, h5, h6, h7, h8, by rw [he]; exact h9, h10⟩
theorem vx_L.kept {C n d : String} {A : Nat → Prop} {U : State} {H H1 : Heap} (h : vx_L C n d A U H) (hq : ∀ a : Nat, a < H.size → ¬ A a → H1[a]? = H[a]?) : vx_L C n d A U H1 := by
  obtain ⟨c, k, i, f, a, cell, h1, h2, h3, h4, h5, h6, h7, h8, h9, h10⟩ := h
  exact ⟨c, k, i, f, a, cell, h1, h2, h3, h4, by rw [hq a (Array.getElem?_eq_some_iff.mp h5).1 h10]; exact h5, h6, h7, h8, h9, h10⟩
theorem vx_L.narrow {C n d : String} {A B : Nat → Prop} {U : State} {H : Heap} (h : vx_L C n d A U H) (hAB : ∀ q, B q → A q) : vx_L C n d B U H := by
  obtain ⟨c, k, i, f, a, cell, h1, h2, h3, h4, h5, h6, h7, h8, h9, h10⟩ := h
  exact ⟨c, k, i, f, a, cell, h1, h2, h3, h4, h5, h6, h7, h8, h9, fun z => h10 (hAB _ z)⟩
theorem vx_L.word {C n d : String} {A : Nat → Prop} {s : State} {args : Array Value} (h : vx_L C n d A s s.heap) : (Cond.laysStatic C n d).before args s = true := by
  obtain ⟨c, k, i, f, a, cell, h1, h2, h3, h4, h5, h6, h7, h8, h9, -⟩ := h
  show (Cond.laysStatic C n d).holds args s none s [] = true
  exact Cond.laysStatic_of h1 h2 h3 h4 h5 h6 h7 h8 h9
/-- .. and what it holds: null or some reference -/
def vx_Zq (C n d : String) (A : Nat → Prop) (U : State) (H : Heap) : Prop := va_Zq C n d A U H ∧ vx_L C n d A U H
theorem vx_Zq.moved {C n d : String} {A : Nat → Prop} {u U : State} {H : Heap} (hvm : u.vm.Alike U.vm) (h : vx_Zq C n d A u H) : vx_Zq C n d A U H := ⟨va_Zq.moved hvm h.1, vx_L.moved hvm h.2⟩
theorem vx_Zq.kept {C n d : String} {A : Nat → Prop} {U : State} {H H1 : Heap} (h : vx_Zq C n d A U H) (hq : ∀ a : Nat, a < H.size → ¬ A a → H1[a]? = H[a]?) : vx_Zq C n d A U H1 := ⟨va_Zq.kept h.1 hq, vx_L.kept h.2 hq⟩
theorem vx_Zq.narrow {C n d : String} {A B : Nat → Prop} {U : State} {H : Heap} (h : vx_Zq C n d A U H) (hAB : ∀ q, B q → A q) : vx_Zq C n d B U H := ⟨va_Zq.narrow h.1 hAB, vx_L.narrow h.2 hAB⟩
theorem vx_Zqof {args : Array Value} {s : State} {C n d : String} {A : Nat → Prop} (hl : (Cond.laysStatic C n d).before args s = true) (hini : (Cond.initialized C).before args s = true) (h : (Cond.isRef (.static C n d)).before args s = true) (hA : ∀ a : Nat, a < s.heap.size → ¬ A a) : vx_Zq C n d A s s.heap := by
  refine ⟨va_Zqof hl hini h hA, ?_⟩
  obtain ⟨c, k, i, f, a, cell, h1, h2, h3, h4, h5, h6, h7, h8, h9⟩ := Cond.laysStatic_spec hl
  exact ⟨c, k, i, f, a, cell, h1, h2, h3, h4, h5, h6, h7, h8, h9, hA a (Array.getElem?_eq_some_iff.mp h5).1⟩
theorem vx_isRef {C n d : String} {v : Value} {A : Nat → Prop} {s : State} {args : Array Value} (h : va_Z C n d v A s s.heap) (hv : v.isRef = true) : (Cond.isRef (.static C n d)).before args s = true := by
  obtain ⟨cf, kf, fi, f, a, cell, h1, h2, h3, h4, h5, h6, h7, -⟩ := h
  have he : (Term.static C n d).eval args s none [] s = some v := by
    simp [Term.eval, State.fieldNamed?, h1, h2, h4, h5, h6, h7]
  simp only [Cond.before, Cond.holds, Cond.value, he]
  cases v <;> simp_all [Value.isRef]
theorem vx_isRefq {C n d : String} {A : Nat → Prop} {s : State} {args : Array Value} (h : va_Zq C n d A s s.heap) : (Cond.isRef (.static C n d)).before args s = true := by
  rcases h with h | ⟨t, h⟩
  · exact vx_isRef h rfl
  · exact vx_isRef h rfl
/-- the same frame, seen from here: as if the method were called anew in this heap -/
theorem vx_rebase {T : State} (X : Stand p l e R s m args below meth c T locs cells slots) {R' : Room} (hf : R'.frames ≤ R.frames) (hl : R'.locals ≤ R.locals) (hc : cells + R'.cells ≤ R.cells) (hs : slots + R'.slots ≤ R.slots) :
    Stand p l e R' ((T.setVm s.vm).setFrames (.invoking m args :: below)) m args below meth c T [] 0 0 := by
  have htop : (T.setVm s.vm).topJava?.isSome := X.here.top
  have hF : ((T.setVm s.vm).setFrames (.invoking m args :: below)).frames = .invoking m args :: below := State.frames_setFrames _ (State.cur_lt_of_top htop)
  obtain ⟨g₀, hg0⟩ := Option.isSome_iff_exists.mp htop
  obtain ⟨r, hr⟩ := State.topJava?_eq_some.mp hg0
  have hl9 : e.platform.stackLimits (T.setVm s.vm).me = e.platform.stackLimits s.me := X.limits
  have hb9 : (T.setVm s.vm).me.stackBytes = s.me.stackBytes := X.bytes
  refine ⟨X.admits, X.cas, X.clock, hF, ?_, X.hears, X.method, X.code, X.here, X.tail, X.warmed, ?_, ?_, ?_⟩
  · have h := X.room
    have hU : ((T.setVm s.vm).setFrames (.invoking m args :: below)).localsInUse = s.localsInUse := by
      rw [State.localsInUse_invoking hF (meth := meth) (c := c) X.method X.code, State.localsInUse_invoking X.frames X.method X.code]
    simp only [State.hasRoom, Bool.and_eq_true, decide_eq_true_eq] at h ⊢
    obtain ⟨⟨⟨⟨h1, h2, h3, h4, h5, h6⟩, h7⟩, h8⟩, h9⟩ := h
    rw [X.frames, List.length_cons] at h2 h3
    have q1 := X.heapSize
    have q2 := X.used
    simp only [hF, hU, List.length_cons, State.stackLimits_setFrames, State.stackBytes_setFrames, hl9, hb9]
    refine ⟨⟨⟨⟨by omega, by omega, by omega, by omega, by omega, h6⟩, ?_⟩, ?_⟩, X.book⟩
    · show T.heap.size + R'.cells ≤ e.platform.maxCells
      omega
    · show T.slotsUsed + R'.slots ≤ e.platform.maxSlots
      omega
  · rw [State.stackLimits_setFrames]; rfl
  · rw [State.stackBytes_setFrames]; rfl
  · refine ⟨?_, Nat.le_refl _, Nat.le_refl _, ?_, ?_, fun a c9 h9 => ⟨c9, h9, rfl, rfl, fun _ _ => rfl⟩⟩
    · obtain ⟨t, ht, -⟩ := State.frames_cons hr
      show T.setVm s.vm = { ((T.setVm s.vm).setFrames (.invoking m args :: below)).setFrames (T.setVm s.vm).frames with heap := T.heap, slotsUsed := T.slotsUsed }
      rw [State.setFrames_setFrames, State.setFrames_self ht]
      rfl
    · show T.slotsUsed = T.slotsUsed + ((T.heap.toList.drop T.heap.size).map (·.slots.size)).sum
      rw [List.drop_eq_nil_of_le (Nat.le_of_eq Array.length_toList)]
      rfl
    · show ((T.heap.toList.drop T.heap.size).map (·.slots.size)).sum ≤ 0
      rw [List.drop_eq_nil_of_le (Nat.le_of_eq Array.length_toList)]
      exact Nat.le_refl _
/-- 'throw new E()': new; dup; invokespecial; athrow -/
theorem vx_throw0 {cc : ByteArray} {pc : Nat} (hexec : p.tables.exec = Jvm.exec) (hb : c.code = cc) (hl : l.stackTraces = false) {own cls : String} {names : List String} {ik ic mc ms : Nat} {A : Nat → Prop}
    (hown : s.vm.findClass own = some m.cls) (hcls : Bundle.fit cls = true) (hnames : ∀ n ∈ names, Bundle.fit n = true)
    (hk : (Cond.classLink own ik cls).before args s = true) (hini : (Cond.initialized cls).before args s = true) (hat : ∀ w ∈ vx_at0 own ic cls names, w.before args s = true)
    (hgood : ∀ w ∈ Cond.classLink own ik cls :: Cond.initialized cls :: vx_at0 own ic cls names, vx_ot w = true)
    (hU : vx_Zq Bundle.tN "UNASSIGNED_STACK" Bundle.steD A s s.heap) (hN : vx_Zq Bundle.tN "SUPPRESSED_SENTINEL" Bundle.listD A s s.heap) (hS : va_S A s.heap H locs) (hsize : ls.size = c.maxLocals)
    (d0 : decode cc pc = .ok (.new ik, 3)) (d3 : decode cc (pc + 3) = .ok (.dup, 1)) (d4 : decode cc (pc + 4) = .ok (.invokespecial ic, 3)) (d7 : decode cc (pc + 7) = .ok (.athrow, 1))
    (hout : ∀ x ∈ c.exceptionTable.toList, covers x (pc + 7) = false)
    (hRframes : names.length + 3 < R.frames) (hRlocals : (rest.map fun v => v.category).sum + (13 * (names.length + 1) + 42) ≤ R.locals) (hRcells : cells + 1 ≤ R.cells) (hRslots : slots + 6 ≤ R.slots) (hlocks : meth.locks = false)
    (hx : ∀ t : State, s.vm.Alike t.vm → H.size ≤ t.heap.size → (∀ q : Nat, q < H.size → t.heap[q]? = H[q]?) → XC cls s t)
    (hf : ∀ z ∈ locs, free z.base) (hc : cells + 1 ≤ mc) (hs : slots + 6 ≤ ms) :
    W p l e R s m args below meth c H locs cells slots (vx_MQ below Qc XC args s mc ms free) (F0 m pc ls rest) := by
  intro T hT X
  have htr : e.platform.stackTraces = false := (show e.platform.stackTraces = l.stackTraces by rw [X.admits.platform]).trans hl
  have Y := vx_rebase X (R' := { frames := R.frames, locals := R.locals, cells := 1, slots := 6 }) (Nat.le_refl _) (Nat.le_refl _) hRcells hRslots
  obtain ⟨s', hA⟩ : ∃ z, z = (T.setVm s.vm).setFrames (.invoking m args :: below) := ⟨_, rfl⟩
  rw [← hA] at Y
  have hvm : s'.vm = s.vm := by rw [hA]; rfl
  have hhp : s'.heap = H := by rw [hA]; exact hT
  have hW0 : s.WarmedH s'.vm := by rw [hvm]; exact State.WarmedH.refl s
  have hat' : ∀ w ∈ vx_at0 own ic cls names, w.before args s' = true := fun w hw => vx_ot_at hW0 hvm.symm (hgood w (List.mem_cons_of_mem _ (List.mem_cons_of_mem _ hw))) (hat w hw)
  have hk' : (Cond.classLink own ik cls).before args s' = true := vx_ot_at hW0 hvm.symm (hgood _ List.mem_cons_self) hk
  have hini' : (Cond.initialized cls).before args s' = true := vx_ot_at hW0 hvm.symm (hgood _ (List.mem_cons_of_mem _ List.mem_cons_self)) hini
  have hU' : vx_Zq Bundle.tN "UNASSIGNED_STACK" Bundle.steD A s' s'.heap := by rw [hhp]; exact vx_Zq.moved hW0.alike (hU.kept hS.2.1)
  have hN' : vx_Zq Bundle.tN "SUPPRESSED_SENTINEL" Bundle.listD A s' s'.heap := by rw [hhp]; exact vx_Zq.moved hW0.alike (hN.kept hS.2.1)
  have h : ∀ w ∈ Bundle.ownAtoms0 own ic cls names, w.before args s' = true := vx_own hat' (vx_isRefq hU'.1) (vx_isRefq hN'.1) hU'.2.word hN'.2.word
  have hown' : s'.vm.findClass own = some m.cls := by rw [hvm]; exact hown
  have hins : (Cond.instantiable cls 6).before args s' = true := h _ (by simp [Bundle.ownAtoms0])
  obtain ⟨vm₁, cX, kX, hfX, hkX, -, -, X₁, st1⟩ := Y.newCold hexec (own := own) (C := cls) (index := ik) (n := 6) hown' hk' hins hini'
    (g := F0 m pc ls rest) rfl (by rw [hb]; exact d0) (Nat.le_refl _) (Nat.le_refl _)
  generalize hT1 : (T.setVm vm₁).pushCell { cls := cX, slots := kX.instanceTypes.map defaultValue, vm := .none } = T1 at X₁ st1
  have hcat : (Value.ref T.heap.size).category = 1 := rfl
  have hcellA : T1.heap[T.heap.size]? = some (freshCell cX kX) := by rw [← hT1]; exact State.heap_pushCell_size _ _
  have d3' : decode c.code (pc + 3) = .ok (.dup, 1) := by rw [hb]; exact d3
  obtain ⟨U, hsteps, hrun, hend, hW, hsame, ce, hce, hO⟩ := X₁.ctorThrow0 hexec htr (own := own) (cls := cls) (names := names) (ic := ic) hown' hcls hnames h (fun x hx => nomatch hx) hfX hkX hcellA (by rw [hhp, hT]; exact Nat.le_refl _)
    (g := { method := m, pc := pc + 4, locals := ls, stack := .ref T.heap.size :: .ref T.heap.size :: rest, locked := none }) rfl hsize rfl rfl (rest := rest) rfl
    (by rw [hb]; exact d4) (by rw [hb]; exact d7) hout hRframes (by simp only [List.map_cons, List.sum_cons, hcat]; omega) hlocks
  obtain ⟨f1, f2⟩ := vx_frame hsame
  rw [hhp] at f1 f2
  have hWs : s.WarmedH U.vm := State.WarmedH.trans hW0 hW
  have hcl : s.vm.findClass cls = some ce.cls := by
    have h9 := hO.cls
    rw [hvm] at h9
    exact h9
  have hall : s.sameButNew ({ U with vm := s.vm } : State) locs mc ms := by
    subst hA
    obtain ⟨e1, e2⟩ := hsame
    rw [State.setFrames_setFrames] at e1
    have h2 : (T.setVm s.vm).sameButNew ({ U with vm := s.vm } : State) [] (0 + 1) (0 + 6) := ⟨e1, e2⟩
    have h3 := X.same.trans h2
    rw [List.append_nil] at h3
    exact h3.mono hc hs
  refine ⟨U, ?_, .threw T.heap.size, hrun, hend, Or.inr ⟨T.heap.size, rfl, cls, ce, locs, hx U hWs.alike f1 (fun q hq => f2 q hq (fun z hz => nomatch hz)), hce, hO.vm, hcl, hWs, hall, hf⟩⟩
  refine st1 _ ?_
  show Steps p.tables e below (T1.setTop { method := m, pc := pc + 3, locals := ls, stack := .ref T.heap.size :: rest, locked := none }) _
  jvm_step X₁.here [X₁.here.top, hexec, d3', Value.category]
  exact hsteps
/-- 'throw new E("text")': new; dup; ldc; invokespecial; athrow -/
theorem vx_throwS {cc : ByteArray} {pc : Nat} (hexec : p.tables.exec = Jvm.exec) (hb : c.code = cc) (hl : l.stackTraces = false) {own cls text : String} {names : List String} {ik is ic mc ms sa : Nat} {A : Nat → Prop}
    (hown : s.vm.findClass own = some m.cls) (hcls : Bundle.fit cls = true) (hnames : ∀ n ∈ names, Bundle.fit n = true)
    (hk : (Cond.classLink own ik cls).before args s = true) (hini : (Cond.initialized cls).before args s = true) (hstr : vk_R own is text sa s) (hat : ∀ w ∈ vx_atS own ic cls names, w.before args s = true)
    (hgood : ∀ w ∈ Cond.classLink own ik cls :: Cond.initialized cls :: vx_atS own ic cls names, vx_ot w = true)
    (hU : vx_Zq Bundle.tN "UNASSIGNED_STACK" Bundle.steD A s s.heap) (hN : vx_Zq Bundle.tN "SUPPRESSED_SENTINEL" Bundle.listD A s s.heap) (hS : va_S A s.heap H locs) (hsize : ls.size = c.maxLocals)
    (d0 : decode cc pc = .ok (.new ik, 3)) (d3 : decode cc (pc + 3) = .ok (.dup, 1)) (d4 : decode cc (pc + 4) = .ok (.ldc is, 2)) (d6 : decode cc (pc + 6) = .ok (.invokespecial ic, 3)) (d9 : decode cc (pc + 9) = .ok (.athrow, 1))
    (hout : ∀ x ∈ c.exceptionTable.toList, covers x (pc + 9) = false)
    (hRframes : names.length + 3 < R.frames) (hRlocals : (rest.map fun v => v.category).sum + (13 * (names.length + 1) + 43) ≤ R.locals) (hRcells : cells + 1 ≤ R.cells) (hRslots : slots + 6 ≤ R.slots) (hlocks : meth.locks = false)
    (hx : ∀ t : State, s.vm.Alike t.vm → H.size ≤ t.heap.size → (∀ q : Nat, q < H.size → t.heap[q]? = H[q]?) → XC cls s t)
    (hf : ∀ z ∈ locs, free z.base) (hc : cells + 1 ≤ mc) (hs : slots + 6 ≤ ms) :
    W p l e R s m args below meth c H locs cells slots (vx_MQ below Qc XC args s mc ms free) (F0 m pc ls rest) := by
  intro T hT X
  have htr : e.platform.stackTraces = false := (show e.platform.stackTraces = l.stackTraces by rw [X.admits.platform]).trans hl
  have Y := vx_rebase X (R' := { frames := R.frames, locals := R.locals, cells := 1, slots := 6 }) (Nat.le_refl _) (Nat.le_refl _) hRcells hRslots
  obtain ⟨s', hA⟩ : ∃ z, z = (T.setVm s.vm).setFrames (.invoking m args :: below) := ⟨_, rfl⟩
  rw [← hA] at Y
  have hvm : s'.vm = s.vm := by rw [hA]; rfl
  have hhp : s'.heap = H := by rw [hA]; exact hT
  have hW0 : s.WarmedH s'.vm := by rw [hvm]; exact State.WarmedH.refl s
  have hat' : ∀ w ∈ vx_atS own ic cls names, w.before args s' = true := fun w hw => vx_ot_at hW0 hvm.symm (hgood w (List.mem_cons_of_mem _ (List.mem_cons_of_mem _ hw))) (hat w hw)
  have hk' : (Cond.classLink own ik cls).before args s' = true := vx_ot_at hW0 hvm.symm (hgood _ List.mem_cons_self) hk
  have hini' : (Cond.initialized cls).before args s' = true := vx_ot_at hW0 hvm.symm (hgood _ (List.mem_cons_of_mem _ List.mem_cons_self)) hini
  have hU' : vx_Zq Bundle.tN "UNASSIGNED_STACK" Bundle.steD A s' s'.heap := by rw [hhp]; exact vx_Zq.moved hW0.alike (hU.kept hS.2.1)
  have hN' : vx_Zq Bundle.tN "SUPPRESSED_SENTINEL" Bundle.listD A s' s'.heap := by rw [hhp]; exact vx_Zq.moved hW0.alike (hN.kept hS.2.1)
  have h : ∀ w ∈ Bundle.ownAtoms own ic cls names, w.before args s' = true := vx_own hat' (vx_isRefq hU'.1) (vx_isRefq hN'.1) hU'.2.word hN'.2.word
  have hown' : s'.vm.findClass own = some m.cls := by rw [hvm]; exact hown
  have hins : (Cond.instantiable cls 6).before args s' = true := h _ (by simp [Bundle.ownAtoms])
  obtain ⟨vm₁, cX, kX, hfX, hkX, -, -, X₁, st1⟩ := Y.newCold hexec (own := own) (C := cls) (index := ik) (n := 6) hown' hk' hins hini'
    (g := F0 m pc ls rest) rfl (by rw [hb]; exact d0) (Nat.le_refl _) (Nat.le_refl _)
  generalize hT1 : (T.setVm vm₁).pushCell { cls := cX, slots := kX.instanceTypes.map defaultValue, vm := .none } = T1 at X₁ st1
  have hcat : (Value.ref T.heap.size).category = 1 := rfl
  have hcellA : T1.heap[T.heap.size]? = some (freshCell cX kX) := by rw [← hT1]; exact State.heap_pushCell_size _ _
  have d3' : decode c.code (pc + 3) = .ok (.dup, 1) := by rw [hb]; exact d3
  have d4' : decode c.code (pc + 4) = .ok (.ldc is, 2) := by rw [hb]; exact d4
  have hstr' : vk_R own is text sa s' := vk_R.warm hW0 hstr
  obtain ⟨U, hsteps, hrun, hend, hW, hsame, ce, hce, hO⟩ := X₁.ctorThrowS hexec htr (own := own) (cls := cls) (names := names) (ic := ic) hown' hcls hnames h (fun x hx => nomatch hx) hfX hkX hcellA (by rw [hhp, hT]; exact Nat.le_refl _) (msg := .ref sa) rfl
    (g := { method := m, pc := pc + 6, locals := ls, stack := .ref sa :: .ref T.heap.size :: .ref T.heap.size :: rest, locked := none }) rfl hsize rfl rfl (rest := rest) rfl
    (by rw [hb]; exact d6) (by rw [hb]; exact d9) hout hRframes (by simp only [List.map_cons, List.sum_cons, hcat]; omega) hlocks
  obtain ⟨f1, f2⟩ := vx_frame hsame
  rw [hhp] at f1 f2
  have hWs : s.WarmedH U.vm := State.WarmedH.trans hW0 hW
  have hcl : s.vm.findClass cls = some ce.cls := by
    have h9 := hO.cls
    rw [hvm] at h9
    exact h9
  have hall : s.sameButNew ({ U with vm := s.vm } : State) locs mc ms := by
    subst hA
    obtain ⟨e1, e2⟩ := hsame
    rw [State.setFrames_setFrames] at e1
    have h2 : (T.setVm s.vm).sameButNew ({ U with vm := s.vm } : State) [] (0 + 1) (0 + 6) := ⟨e1, e2⟩
    have h3 := X.same.trans h2
    rw [List.append_nil] at h3
    exact h3.mono hc hs
  refine ⟨U, ?_, .threw T.heap.size, hrun, hend, Or.inr ⟨T.heap.size, rfl, cls, ce, locs, hx U hWs.alike f1 (fun q hq => f2 q hq (fun z hz => nomatch hz)), hce, hO.vm, hcl, hWs, hall, hf⟩⟩
  refine st1 _ ?_
  show Steps p.tables e below (T1.setTop { method := m, pc := pc + 3, locals := ls, stack := .ref T.heap.size :: rest, locked := none }) _
  jvm_step X₁.here [X₁.here.top, hexec, d3', Value.category]
  exact X₁.ldcString hexec (own := own) (text := text) (index := is) (a := sa) hown' hstr'.1 hstr'.2
    (g := { method := m, pc := pc + 4, locals := ls, stack := .ref T.heap.size :: .ref T.heap.size :: rest, locked := none }) rfl d4' _ hsteps
/-- 'throw new E("text")', the text by a wide index -/
theorem vx_throwSW {cc : ByteArray} {pc : Nat} (hexec : p.tables.exec = Jvm.exec) (hb : c.code = cc) (hl : l.stackTraces = false) {own cls text : String} {names : List String} {ik is ic mc ms sa : Nat} {A : Nat → Prop}
    (hown : s.vm.findClass own = some m.cls) (hcls : Bundle.fit cls = true) (hnames : ∀ n ∈ names, Bundle.fit n = true)
    (hk : (Cond.classLink own ik cls).before args s = true) (hini : (Cond.initialized cls).before args s = true) (hstr : vk_R own is text sa s) (hat : ∀ w ∈ vx_atS own ic cls names, w.before args s = true)
    (hgood : ∀ w ∈ Cond.classLink own ik cls :: Cond.initialized cls :: vx_atS own ic cls names, vx_ot w = true)
    (hU : vx_Zq Bundle.tN "UNASSIGNED_STACK" Bundle.steD A s s.heap) (hN : vx_Zq Bundle.tN "SUPPRESSED_SENTINEL" Bundle.listD A s s.heap) (hS : va_S A s.heap H locs) (hsize : ls.size = c.maxLocals)
    (d0 : decode cc pc = .ok (.new ik, 3)) (d3 : decode cc (pc + 3) = .ok (.dup, 1)) (d4 : decode cc (pc + 4) = .ok (.ldc_w is, 3)) (d7 : decode cc (pc + 7) = .ok (.invokespecial ic, 3)) (d10 : decode cc (pc + 10) = .ok (.athrow, 1))
    (hout : ∀ x ∈ c.exceptionTable.toList, covers x (pc + 10) = false)
    (hRframes : names.length + 3 < R.frames) (hRlocals : (rest.map fun v => v.category).sum + (13 * (names.length + 1) + 43) ≤ R.locals) (hRcells : cells + 1 ≤ R.cells) (hRslots : slots + 6 ≤ R.slots) (hlocks : meth.locks = false)
    (hx : ∀ t : State, s.vm.Alike t.vm → H.size ≤ t.heap.size → (∀ q : Nat, q < H.size → t.heap[q]? = H[q]?) → XC cls s t)
    (hf : ∀ z ∈ locs, free z.base) (hc : cells + 1 ≤ mc) (hs : slots + 6 ≤ ms) :
    W p l e R s m args below meth c H locs cells slots (vx_MQ below Qc XC args s mc ms free) (F0 m pc ls rest) := by
  intro T hT X
  have htr : e.platform.stackTraces = false := (show e.platform.stackTraces = l.stackTraces by rw [X.admits.platform]).trans hl
  have Y := vx_rebase X (R' := { frames := R.frames, locals := R.locals, cells := 1, slots := 6 }) (Nat.le_refl _) (Nat.le_refl _) hRcells hRslots
  obtain ⟨s', hA⟩ : ∃ z, z = (T.setVm s.vm).setFrames (.invoking m args :: below) := ⟨_, rfl⟩
  rw [← hA] at Y
  have hvm : s'.vm = s.vm := by rw [hA]; rfl
  have hhp : s'.heap = H := by rw [hA]; exact hT
  have hW0 : s.WarmedH s'.vm := by rw [hvm]; exact State.WarmedH.refl s
  have hat' : ∀ w ∈ vx_atS own ic cls names, w.before args s' = true := fun w hw => vx_ot_at hW0 hvm.symm (hgood w (List.mem_cons_of_mem _ (List.mem_cons_of_mem _ hw))) (hat w hw)
  have hk' : (Cond.classLink own ik cls).before args s' = true := vx_ot_at hW0 hvm.symm (hgood _ List.mem_cons_self) hk
  have hini' : (Cond.initialized cls).before args s' = true := vx_ot_at hW0 hvm.symm (hgood _ (List.mem_cons_of_mem _ List.mem_cons_self)) hini
  have hU' : vx_Zq Bundle.tN "UNASSIGNED_STACK" Bundle.steD A s' s'.heap := by rw [hhp]; exact vx_Zq.moved hW0.alike (hU.kept hS.2.1)
  have hN' : vx_Zq Bundle.tN "SUPPRESSED_SENTINEL" Bundle.listD A s' s'.heap := by rw [hhp]; exact vx_Zq.moved hW0.alike (hN.kept hS.2.1)
  have h : ∀ w ∈ Bundle.ownAtoms own ic cls names, w.before args s' = true := vx_own hat' (vx_isRefq hU'.1) (vx_isRefq hN'.1) hU'.2.word hN'.2.word
  have hown' : s'.vm.findClass own = some m.cls := by rw [hvm]; exact hown
  have hins : (Cond.instantiable cls 6).before args s' = true := h _ (by simp [Bundle.ownAtoms])
  obtain ⟨vm₁, cX, kX, hfX, hkX, -, -, X₁, st1⟩ := Y.newCold hexec (own := own) (C := cls) (index := ik) (n := 6) hown' hk' hins hini'
    (g := F0 m pc ls rest) rfl (by rw [hb]; exact d0) (Nat.le_refl _) (Nat.le_refl _)
  generalize hT1 : (T.setVm vm₁).pushCell { cls := cX, slots := kX.instanceTypes.map defaultValue, vm := .none } = T1 at X₁ st1
  have hcat : (Value.ref T.heap.size).category = 1 := rfl
  have hcellA : T1.heap[T.heap.size]? = some (freshCell cX kX) := by rw [← hT1]; exact State.heap_pushCell_size _ _
  have d3' : decode c.code (pc + 3) = .ok (.dup, 1) := by rw [hb]; exact d3
  have d4' : decode c.code (pc + 4) = .ok (.ldc_w is, 3) := by rw [hb]; exact d4
  have hstr' : vk_R own is text sa s' := vk_R.warm hW0 hstr
  obtain ⟨U, hsteps, hrun, hend, hW, hsame, ce, hce, hO⟩ := X₁.ctorThrowS hexec htr (own := own) (cls := cls) (names := names) (ic := ic) hown' hcls hnames h (fun x hx => nomatch hx) hfX hkX hcellA (by rw [hhp, hT]; exact Nat.le_refl _) (msg := .ref sa) rfl
    (g := { method := m, pc := pc + 7, locals := ls, stack := .ref sa :: .ref T.heap.size :: .ref T.heap.size :: rest, locked := none }) rfl hsize rfl rfl (rest := rest) rfl
    (by rw [hb]; exact d7) (by rw [hb]; exact d10) hout hRframes (by simp only [List.map_cons, List.sum_cons, hcat]; omega) hlocks
  obtain ⟨f1, f2⟩ := vx_frame hsame
  rw [hhp] at f1 f2
  have hWs : s.WarmedH U.vm := State.WarmedH.trans hW0 hW
  have hcl : s.vm.findClass cls = some ce.cls := by
    have h9 := hO.cls
    rw [hvm] at h9
    exact h9
  have hall : s.sameButNew ({ U with vm := s.vm } : State) locs mc ms := by
    subst hA
    obtain ⟨e1, e2⟩ := hsame
    rw [State.setFrames_setFrames] at e1
    have h2 : (T.setVm s.vm).sameButNew ({ U with vm := s.vm } : State) [] (0 + 1) (0 + 6) := ⟨e1, e2⟩
    have h3 := X.same.trans h2
    rw [List.append_nil] at h3
    exact h3.mono hc hs
  refine ⟨U, ?_, .threw T.heap.size, hrun, hend, Or.inr ⟨T.heap.size, rfl, cls, ce, locs, hx U hWs.alike f1 (fun q hq => f2 q hq (fun z hz => nomatch hz)), hce, hO.vm, hcl, hWs, hall, hf⟩⟩
  refine st1 _ ?_
  show Steps p.tables e below (T1.setTop { method := m, pc := pc + 3, locals := ls, stack := .ref T.heap.size :: rest, locked := none }) _
  jvm_step X₁.here [X₁.here.top, hexec, d3', Value.category]
  exact X₁.ldcStringW hexec (own := own) (text := text) (index := is) (a := sa) hown' hstr'.1 hstr'.2
    (g := { method := m, pc := pc + 4, locals := ls, stack := .ref T.heap.size :: .ref T.heap.size :: rest, locked := none }) rfl d4' _ hsteps
end Ends
section Bodies
variable {l : Launch}
theorem vx_ofW {y : MethodName} {ws ws' : List Cond} {rm : Room} {Pc : Array Value → State → Prop} {Qc : Array Value → State → Outcome → State → Prop} {XC : String → State → State → Prop} {mc ms : Nat} {free : Addr → Prop} {cc : ByteArray} {maxL : Nat} {ret : Option FieldType}
    (hy : plainName y.cls = true) (hw : ws = Cond.code y cc maxL ret :: ws')
    (body : ∀ p e s m args below meth c s₁, BodyLoose p l y (headSpec ws rm) cc maxL ret e s m args below meth c s₁ → c.maxLocals = maxL → (∀ x ∈ c.exceptionTable.toList, False) → Pc args s →
      W p l e (headSpec ws rm).room s m args below meth c s.heap [] 0 0 (vx_MQ below Qc XC args s mc ms free) (entryFrame m args maxL)) : vx_Met l y ws rm Pc Qc XC mc ms free := by
  refine MetFree.of_bodyS (code := cc) (maxLocals := maxL) (ret := ret) hy ?_ ?_
  · intro args s m h hn
    obtain ⟨meth, c, h1, h2, h3, h4, h5, h6, -, -⟩ := Cond.code_spec hn (atoms_spec (ws := ws) h _ (by rw [hw]; exact List.mem_cons_self))
    exact ⟨meth, c, h1, h2, h3, h4, h5, h6⟩
  · intro p e s m args below meth c s₁ B hml hP _
    have hh0 : s₁.heap = s.heap := by rw [B.state]; rfl
    have ht : ∀ x ∈ c.exceptionTable.toList, False := by
      obtain ⟨meth9, c9, h1, h2, -, -, -, -, h7, -⟩ := Cond.code_spec B.named (atoms_spec (ws := ws) B.pre _ (by rw [hw]; exact List.mem_cons_self))
      cases Option.some.inj (h1.symm.trans B.method)
      cases Option.some.inj (h2.symm.trans (Stand.of_body B).code)
      intro x hx
      rw [Array.isEmpty_iff.mp h7] at hx
      cases hx
    obtain ⟨t, a1, o, b1, b2, b3⟩ := body p e s m args below meth c s₁ B hml ht hP s₁ hh0 (Stand.of_body B)
    exact ⟨t, o, a1, b1, b2, b3⟩
/-- the table of a body with handlers -/
theorem vx_table {p : Program} {x y : MethodName} {S : Spec} {cc bytes : ByteArray} {maxL maxL' : Nat} {ret ret' : Option FieldType} {e : Env} {s s₁ : State} {m : MethodId} {args : Array Value} {below : List Frame} {meth : Method} {c : Code} {hh : List (Nat × Nat × Nat × Nat)}
    (B : BodyLoose p l y S cc maxL ret e s m args below meth c s₁) (h : (Cond.codeWith y bytes maxL' ret' hh).before args s = true) : c.exceptionTable.toList = tableOf hh := by
  obtain ⟨m9, meth9, c9, hn9, h1, h2, -, -, h6, -⟩ := Cond.codeWith_spec h
  cases Option.some.inj (hn9.symm.trans B.named)
  cases Option.some.inj (h1.symm.trans B.method)
  cases Option.some.inj (h2.symm.trans (Stand.of_body B).code)
  rw [← h6, table_eq]
end Bodies
end VXA
/-! ===== END ===== -/
/-! ===== BEGIN a static call of a method with an exception table ===== -/
section VXS
variable {p : Program} {l : Launch} {e : Env} {R : Room} {s : State} {m : MethodId} {args : Array Value} {below : List Frame} {meth : Method} {c : Code} {T : State} {H : Heap} {locs : List Loc} {cells slots : Nat}
abbrev vx_CSW (R : Room) (s : State) (args : Array Value) (own : String) (index : Nat) (y : MethodName) (bytes : ByteArray) (maxL : Nat) (ret : Option FieldType) (hh : List (Nat × Nat × Nat × Nat)) (ws : List Cond) (rm : Room) (mc ms n : Nat) : Prop :=
  (rm.cells = mc ∧ rm.slots = ms ∧ rm.frames + 1 ≤ R.frames ∧ 8 + (maxL + 11) + rm.locals ≤ R.locals ∧ (∀ w ∈ ws, ∀ (a' : Array Value) (U : State), s.WarmedH U.vm → w.before a' U = true) ∧ Cond.codeWith y bytes maxL ret hh ∈ ws) ∧
  (Cond.codeWith y bytes maxL ret hh).before args s = true ∧ (Cond.initialized y.cls).before args s = true ∧ (y.cls ≠ "java/lang/invoke/MethodHandle" ∧ y.cls ≠ "java/lang/invoke/VarHandle") ∧
  (∀ sig, parseMethodDescriptor y.desc = some sig → n = sig.parameters.length) ∧ (Cond.methodLink own index y).before args s = true ∧ (Cond.static y).before args s = true
theorem vx_cwSW {own : String} {index maxL mc ms : Nat} {y : MethodName} {bytes : ByteArray} {ret : Option FieldType} {hh : List (Nat × Nat × Nat × Nat)} {Ts ws ws' : List Cond} {rm : Room} (n : Nat) (ht : ∀ w ∈ Ts, w.before args s = true) (hT : GoodIn Ts (va_wsS own index y ws)) (hw : ws = Cond.codeWith y bytes maxL ret hh :: ws') (hrc : rm.cells = mc) (hrs : rm.slots = ms)
    (hd : y.cls ≠ "java/lang/invoke/MethodHandle" ∧ y.cls ≠ "java/lang/invoke/VarHandle" ∧ (parseMethodDescriptor y.desc).map (fun d => d.parameters.length) = some n) (hR : rm.frames + 1 ≤ R.frames ∧ 8 + (maxL + 11) + rm.locals ≤ R.locals) :
    vx_CSW R s args own index y bytes maxL ret hh ws rm mc ms n := by
  have ok : ∀ w ∈ va_wsS own index y ws, w.before args s = true := fun w h => ht w (hT w h).1
  have hG : GoodIn Ts ws := fun w h => hT w (by unfold va_wsS; exact List.mem_append_right _ h)
  have hc : Cond.codeWith y bytes maxL ret hh ∈ ws := by rw [hw]; exact List.mem_cons_self
  refine ⟨⟨hrc, hrs, hR.1, hR.2, pay_in ht hG, hc⟩, ht _ (hG _ hc).1, ok _ (by simp [va_wsS]), ⟨hd.1, hd.2.1⟩, fun sig h => ?_, ok _ (by simp [va_wsS]), ok _ (by simp [va_wsS])⟩
  have h2 := hd.2.2
  rw [h] at h2
  exact (Option.some.inj h2).symm
theorem vx_callSW (X : Stand p l e R s m args below meth c T locs cells slots) (hexec : p.tables.exec = Jvm.exec) {own : String} {index : Nat} {y : MethodName} {bytes : ByteArray} {maxL : Nat} {ret : Option FieldType} {hh : List (Nat × Nat × Nat × Nat)}
    (hown : s.vm.findClass own = some m.cls) (hlink : (Cond.methodLink own index y).before args s = true) (hstat : (Cond.static y).before args s = true) (hinit : (Cond.initialized y.cls).before args s = true)
    (hcode : (Cond.codeWith y bytes maxL ret hh).before args s = true) (hy : y.cls ≠ "java/lang/invoke/MethodHandle" ∧ y.cls ≠ "java/lang/invoke/VarHandle")
    {W9 : Nat} {Pre : Pt → Array Value → Prop} {Post : Pt → Array Value → Option Value → Pt → Prop} (hK : Back l R p e below s args y 3 W9 Pre Post)
    {g : JFrame} (hg : g.method = m) (hsize : g.locals.size = c.maxLocals) {argsL rest : List Value} (hlen : ∀ sig, parseMethodDescriptor y.desc = some sig → argsL.length = sig.parameters.length)
    (hstack : g.stack = argsL.reverse ++ rest) (hW : 2 * g.monitorRoom + (rest.map fun v => v.category).sum ≤ W9) (hdg : decode c.code g.pc = .ok (.invokestatic index, 3))
    (hpre : ∀ vm₁, s.WarmedH vm₁ → Pre ⟨T.setVm vm₁, locs, cells, slots⟩ argsL.toArray) :
    ∃ (v : Option Value) (vm₁ : Vm) (B : Pt), s.WarmedH vm₁ ∧ Stand p l e R s m args below meth c B.U B.locs B.cells B.slots ∧ Post ⟨T.setVm vm₁, locs, cells, slots⟩ argsL.toArray v B ∧
      ∀ target, Steps p.tables e below (B.U.setTop { g with pc := g.pc + 3, stack := v.toList ++ rest }) target → Steps p.tables e below (T.setTop g) target := by
  obtain ⟨mk, methM, cM, hnamed, hmethM, -, -, -, -, -, -, hsigM⟩ := Cond.codeWith_spec hcode
  have hstatic : methM.isStatic = true := Cond.static_spec hnamed hmethM hstat
  obtain ⟨kP, hkP, -⟩ := className_of_methodNamed hnamed
  have hinitP : kP.init = .initialized := Cond.initialized_spec (findClass_of_methodNamed hnamed) hkP hinit
  obtain ⟨vm₁, X₁, hstep₁⟩ := X.invokestatic hexec hown hlink hnamed hmethM hstatic hkP hinitP hy (g := g) hg (argsL := argsL) (rest := rest) (hlen _ hsigM) hstack hdg
  obtain ⟨v, B, X', hpost, hsteps⟩ := hK m meth c ⟨T.setVm vm₁, locs, cells, slots⟩ { g with stack := rest } (.invokestatic index) mk argsL.toArray X₁ hg hsize hdg hW (X₁.named hnamed) (hpre vm₁ X₁.warmed)
  exact ⟨v, vm₁, B, X₁.warmed, X', hpost, fun target h => hstep₁ _ fun acts => by rw [doInvoke_state]; exact hsteps.trans h⟩
theorem vx_runSW {y : MethodName} {bytes cc : ByteArray} {maxL nL mc ms n index : Nat} {ret : Option FieldType} {hh : List (Nat × Nat × Nat × Nat)} {ws : List Cond} {rm : Room} {Pc : Array Value → State → Prop} {Qc : Array Value → State → Outcome → State → Prop} {free : Addr → Prop} {Ts : List Cond} {own : String} {As rest : List Value} {g : JFrame}
    (S : CallFix p m c cc nL s args Ts own) (hM : Met l y ws rm Pc Qc mc ms free) (cw : vx_CSW R s args own index y bytes maxL ret hh ws rm mc ms n) (hp : PreS s H Pc As)
    (hg : g.method = m) (hn : As.length = n) (hsize : g.locals.size = nL) (hstack : g.stack = As.reverse ++ rest) (hW : 2 * g.monitorRoom + (rest.map fun v => v.category).sum ≤ 8) (hdg : decode cc g.pc = .ok (.invokestatic index, 3)) (hf : cells + mc ≤ R.cells ∧ slots + ms ≤ R.slots) :
    va_Run p l e R s m args below meth c H locs cells slots mc ms g rest (Qc As.toArray) (free) := by
  obtain ⟨⟨hrc, hrs, hfr, hlo, hws, hcw⟩, hcode, hini, hy, hlen, hl, hstt⟩ := cw
  have hK : Back l R p e below s args y 3 8 (PreOf R mc ms Pc) (PostOf Qc mc ms free) := va_backW (hh := hh) (bytes := bytes) (maxL := maxL) (ret := ret) hM hp.1 hrc hrs hfr hlo hws hcw (fun a' U hW => word_at hW (Or.inl (by first | rfl | simp [Cond.onTables, Cond.keeps, Cond.steady])) hini)
  obtain ⟨hx, hb, hml, ho, -⟩ := S
  intro T hT X
  obtain ⟨v, vm₁, ⟨U', l2, c2, s2⟩, hW₁, X', ⟨g', mk, t, L, e1, e2, hq, h1, hL, h2, h3⟩, st⟩ := vx_callSW X hx (hh := hh) (bytes := bytes) (maxL := maxL) (ret := ret) ho hl hstt hini hcode hy hK hg (hsize.trans hml.symm) (argsL := As) (rest := rest) (fun sig h => hn.trans (hlen sig h)) hstack hW (by rw [hb]; exact hdg)
    (fun vm₁ hW₁ => ⟨hf.1, hf.2, hp.2 (T.setVm vm₁) hT hW₁⟩)
  dsimp only [Pt.U, Pt.locs, Pt.cells, Pt.slots] at X' e1 e2 h1 h2 h3 st
  subst h1; subst h2; subst h3
  exact ⟨v, (T.setVm vm₁).calling g' mk As.toArray, t, U', L, hT, X', hL, e1, e2, hq, st⟩
/-- not caught here, past rows that name other classes: it goes on to the caller -/
theorem vx_outP {p : Program} {l : Launch} {e : Env} {R : Room} {s : State} {m : MethodId} {args : Array Value} {below : List Frame} {meth : Method} {c : Code} {H : Heap} {locs : List Loc} {cells slots : Nat} {free : Addr → Prop} {ls : Array Slot} {rest : List Value} {Qc : Array Value → State → Outcome → State → Prop} {XC : String → State → State → Prop}
    {pc : Nat} {own E : String} {ce : Cell} {q : Addr} {mc ms : Nat} (hown : s.vm.findClass own = some m.cls) (hlocks : meth.locks = false)
    (hpass : ∀ z ∈ c.exceptionTable.toList, covers z pc = false ∨ (z.catchType ≠ 0 ∧ ∃ nm : String, (Cond.classLink own z.catchType nm).before args s = true ∧ va_Nc E nm s)) (hcell : H[q]? = some ce) (hv : ce.vm = .none) (hcl : s.vm.findClass E = some ce.cls)
    (hx : ∀ t : State, t.heap = H → s.vm.Alike t.vm → XC E s t) (hf : ∀ z ∈ locs, free z.base) (hc : cells ≤ mc) (hs : slots ≤ ms) :
    vx_W p l e R s m args below meth c H locs cells slots (vx_MQ below Qc XC args s mc ms free) (F0 m pc ls rest) q := by
  intro T hT X
  have hpl : e.platform.magicAccessors = ({} : Platform).magicAccessors := by rw [X.admits.platform]
  obtain ⟨vm', hW', X', st⟩ := X.outThrough hlocks q (g := F0 m pc ls rest) rfl rfl rfl (cell := ce) (by rw [hT]; exact hcell) (by rw [hv]; rfl)
    (by obtain ⟨k9, h9, -⟩ := Vm.findClass_spec hcl; exact ⟨k9, h9⟩) (fun z hz => by
      rcases hpass z hz with h | ⟨hz0, nm, hl1, hn1⟩
      · exact Or.inl h
      · obtain ⟨c6, hc6, hcl6⟩ := Cond.classLink_spec hown hl1 e.platform hpl
        obtain ⟨a8, b8, h1, h2, h3⟩ := hn1
        cases Option.some.inj (h1.symm.trans hcl)
        cases Option.some.inj (h2.symm.trans hc6)
        exact Or.inr ⟨hz0, _, hcl6, h3⟩)
  obtain ⟨g₀, hfr⟩ := X'.frames_eq
  have hcell9 : ((T.setVm vm').setFrames (.throwing q :: below)).heap[q]? = some ce := by
    show T.heap[q]? = some ce
    rw [hT]; exact hcell
  have hend : Ended ((T.setVm vm').setFrames (.throwing q :: below)) below (.threw q) := State.frames_setFrames _ (State.cur_lt_of_frames hfr)
  refine ⟨(T.setVm vm').setFrames (.throwing q :: below), ?_, .threw q, X'.here.running, hend, Or.inr ⟨q, rfl, E, ce, locs, hx _ hT (X'.ends _).1.alike, hcell9, hv, hcl, (X'.ends _).1, (X'.ends _).2.mono hc hs, hf⟩⟩
  rw [X.pushThrowing_eq]
  exact st
/-- a thing of a world lies in the heap -/
theorem vx_lt {D : va_G} {cl : List vw_C} {ws : va_W} {H1 : Heap} (h : va_P D cl ws H1) {k : Nat} {q : Nat × va_E} (hk : ws[k]? = some q) : q.1 < H1.size := (h k q hk).lt
end VXS
/-! ===== END ===== -/
/-! ===== BEGIN methods with a table of their own: called by a name, returning or throwing ===== -/
section VXH
/-! vx_backW, vx_callVX, vx_callSX, vx_callVW, vx_runVW, vx_runVX, vx_runSX, vx_ofWH follow the same proofs as their sisters above (Free/Laws.lean, Shelf42/LK1.lean); vx_outP calls Shelf42/NT130.lean (outThrough). -/
section
variable {l : Launch} {R : Room} {p : Program} {e : Env} {below : List Frame} {s : State} {sargs : Array Value} {y : MethodName} {len W9 : Nat}
theorem vx_backW {ws : List Cond} {rm : Room} {Pc : Array Value → State → Prop} {Qc : Array Value → State → Outcome → State → Prop} {XC : String → State → State → Prop} {mc ms : Nat} {free : Addr → Prop} {bytes : ByteArray} {maxL : Nat} {ret : Option FieldType} {hh : List (Nat × Nat × Nat × Nat)}
    (hM : vx_Met l y ws rm Pc Qc XC mc ms free) (hblind : FrameBlind Pc) (hrc : rm.cells = mc) (hrs : rm.slots = ms)
    (hframes : rm.frames + 1 ≤ R.frames) (hlocals : W9 + (maxL + 11) + rm.locals ≤ R.locals)
    (hws : ∀ w ∈ ws, ∀ a' U, s.WarmedH U.vm → w.before a' U = true) (hcode : Cond.codeWith y bytes maxL ret hh ∈ ws) (hinit : ∀ a' U, s.WarmedH U.vm → (Cond.initialized y.cls).before a' U = true) :
    vx_Back l R p e below s sargs y len W9 (PreOf R mc ms Pc) (PostOf Qc mc ms free) (vx_Post XC mc ms free) := by
  intro m meth c A g ig mk a X hg hsize hdg hW hn hp
  have h1 : (headSpec ws rm).pre.before a A.U = true := atoms_intro fun w hw => hws w hw _ _ X.warmed
  have h2 : (Cond.codeWith y bytes maxL ret hh).before a A.U = true := hws _ hcode _ _ X.warmed
  have h3 : (Cond.initialized y.cls).before a A.U = true := hinit _ _ X.warmed
  have h4 : A.cells + (headSpec ws rm).room.cells ≤ R.cells := by rw [show (headSpec ws rm).room.cells = mc from hrc]; exact hp.1
  have h5 : A.slots + (headSpec ws rm).room.slots ≤ R.slots := by rw [show (headSpec ws rm).room.slots = ms from hrs]; exact hp.2.1
  have hPc : Pc a (A.U.calling g mk a) := hblind _ _ _ _ hp.2.2
  obtain ⟨U, Ls, c0, s0⟩ := A
  dsimp only [Pt.U, Pt.locs, Pt.cells, Pt.slots] at h1 h2 h3 h4 h5 X hn hPc ⊢
  obtain ⟨m9, methY, cY, hn9, hmY, hcY, -, hlY, -⟩ := Cond.codeWith_spec h2
  cases Option.some.inj (hn9.symm.trans hn)
  obtain ⟨kY, hkY, -⟩ := className_of_methodNamed hn
  have hinitY : kY.init = .initialized := Cond.initialized_spec (findClass_of_methodNamed hn) hkY h3
  have h : At U g.method c below := by rw [hg]; exact X.here
  have hlocals9 : W9 + (maxL + 11) + (headSpec ws rm).room.locals ≤ R.locals := hlocals
  have happ : (headSpec ws rm).appliesLoose y e.platform (U.calling g mk a) = true :=
    Spec.appliesLoose_calling (g := g) h hdg hn hkY hinitY
      (X.room_calling (g := g) (R' := (headSpec ws rm).room) hsize hmY hcY hframes (by rw [hlY]; omega) h4 h5) h1
  obtain ⟨mid, hmid⟩ := h.above
  have hfr : (U.setTop g).frames = (.java g :: mid) ++ below := by rw [State.frames_setTop' g h.top, hmid]; rfl
  obtain ⟨o, s₂, hsteps, -, hend, hq⟩ := Steps.callFree hM p X.admits X.cas X.clock (acts := []) hfr happ hPc trivial
  have hq' : vx_Q Qc XC mc ms free a (U.calling g mk a) o s₂ := hq
  rw [State.frames_setTop' g h.top] at hend
  obtain ⟨g₀, hg0⟩ := Option.isSome_iff_exists.mp h.top
  obtain ⟨r, hr⟩ := State.topJava?_eq_some.mp hg0
  have hr' : (({ U with heap := s₂.heap, slotsUsed := s₂.slotsUsed } : State).setVm s₂.vm).frames = .java g₀ :: r := hr
  rcases hq' with ⟨hqc, L, hfe, hL⟩ | ⟨q, rfl, E, ce, L, hx, hce, hcv, hcl, hW₂, hsm, hL⟩
  · obtain ⟨⟨v, rfl⟩, hW₂, e2, q2, q3, q4, q5, q6⟩ := id hfe
    have e3 : s₂ = ({ (U.calling g mk a).setFrames s₂.frames with heap := s₂.heap, slotsUsed := s₂.slotsUsed } : State).setVm s₂.vm := by
      have : s₂ = ({ s₂ with vm := (U.calling g mk a).vm } : State).setVm s₂.vm := rfl
      rw [e2] at this
      exact this
    obtain ⟨c₂, i₂, len₂, hc₂, hd₂, hf₂⟩ := hend
    have hW' : U.WarmedH s₂.vm := hW₂
    have hcc : c₂ = c := by
      have h1 : s₂.code? g.method = U.code? g.method := by
        rw [State.code?_eq, State.code?_eq, hW'.alike.method?]
      exact Option.some.inj (hc₂.symm.trans (h1.trans h.code))
    subst hcc
    have hlen : len₂ = len := by rw [hdg] at hd₂; cases hd₂; rfl
    subst hlen
    have hs₂ : s₂ = (({ U with heap := s₂.heap, slotsUsed := s₂.slotsUsed } : State).setVm s₂.vm).setTop { g with pc := g.pc + len₂, stack := v.toList ++ g.stack } := by
      refine e3.trans ?_
      rw [hf₂, State.calling_eq h.top, State.setFrames_setFrames, State.setTop_of_frames _ hr', hr]
      rfl
    have hsame : U.sameButNew ({ U with heap := s₂.heap, slotsUsed := s₂.slotsUsed } : State) L mc ms := by
      refine ⟨?_, q2, q3, q4, q5, q6⟩
      obtain ⟨t, ht, -⟩ := State.frames_cons hr
      show ({ U with heap := s₂.heap, slotsUsed := s₂.slotsUsed } : State) = { U.setFrames U.frames with heap := s₂.heap, slotsUsed := s₂.slotsUsed }
      rw [State.setFrames_self ht]
    subst hg
    refine Or.inl ⟨v, ⟨(({ U with heap := s₂.heap, slotsUsed := s₂.slotsUsed } : State).setVm s₂.vm), Ls ++ L, c0 + mc, s0 + ms⟩,
      ⟨X.admits, X.cas, X.clock, X.frames, X.room, X.hears, X.method, X.code, (X.here.setHeapUsed s₂.heap s₂.slotsUsed).setVm hW'.alike, X.tail, State.WarmedH.trans X.warmed hW', X.limits, X.bytes, X.same.trans (hsame.setVm s.vm)⟩,
      ⟨g, mk, s₂, L, rfl, rfl, hqc, rfl, hL, rfl, rfl⟩, ?_⟩
    show Steps p.tables e below _ ((({ U with heap := s₂.heap, slotsUsed := s₂.slotsUsed } : State).setVm s₂.vm).setTop { g with pc := g.pc + len₂, stack := v.toList ++ g.stack })
    rw [← hs₂]
    exact hsteps
  · obtain ⟨e2, q2, q3, q4, q5, q6⟩ := id hsm
    have e3 : s₂ = ({ (U.calling g mk a).setFrames s₂.frames with heap := s₂.heap, slotsUsed := s₂.slotsUsed } : State).setVm s₂.vm := by
      have : s₂ = ({ s₂ with vm := (U.calling g mk a).vm } : State).setVm s₂.vm := rfl
      rw [e2] at this
      exact this
    have hf₂ : s₂.frames = .throwing q :: .java g :: U.frames.tail := hend
    have hW' : U.WarmedH s₂.vm := hW₂
    have hs₂ : s₂ = ((({ U with heap := s₂.heap, slotsUsed := s₂.slotsUsed } : State).setVm s₂.vm).setTop g).pushFrame (.throwing q) := by
      refine e3.trans ?_
      rw [hf₂, State.calling_eq h.top, State.setFrames_setFrames, State.pushFrame, State.frames_setTop _ hr', State.setTop_of_frames _ hr', State.setFrames_setFrames, hr]
      rfl
    have hsame : U.sameButNew ({ U with heap := s₂.heap, slotsUsed := s₂.slotsUsed } : State) L mc ms := by
      refine ⟨?_, q2, q3, q4, q5, q6⟩
      obtain ⟨t, ht, -⟩ := State.frames_cons hr
      show ({ U with heap := s₂.heap, slotsUsed := s₂.slotsUsed } : State) = { U.setFrames U.frames with heap := s₂.heap, slotsUsed := s₂.slotsUsed }
      rw [State.setFrames_self ht]
    subst hg
    refine Or.inr ⟨q, ⟨(({ U with heap := s₂.heap, slotsUsed := s₂.slotsUsed } : State).setVm s₂.vm), Ls ++ L, c0 + mc, s0 + ms⟩,
      ⟨X.admits, X.cas, X.clock, X.frames, X.room, X.hears, X.method, X.code, (X.here.setHeapUsed s₂.heap s₂.slotsUsed).setVm hW'.alike, X.tail, State.WarmedH.trans X.warmed hW', X.limits, X.bytes, X.same.trans (hsame.setVm s.vm)⟩,
      ⟨g, mk, s₂, L, E, ce, rfl, rfl, hx, hce, hcv, hcl, rfl, hL, rfl, rfl⟩, ?_⟩
    show Steps p.tables e below _ (((({ U with heap := s₂.heap, slotsUsed := s₂.slotsUsed } : State).setVm s₂.vm).setTop g).pushFrame (.throwing q))
    rw [← hs₂]
    exact hsteps
end
variable {p : Program} {l : Launch} {e : Env} {R : Room} {s : State} {m : MethodId} {args : Array Value} {below : List Frame} {meth : Method} {c : Code} {T : State} {H : Heap} {locs : List Loc} {cells slots : Nat}
theorem vx_callVX (X : Stand p l e R s m args below meth c T locs cells slots) (hexec : p.tables.exec = Jvm.exec) {own C : String} {index : Nat} {y : MethodName} {bytes : ByteArray} {maxL : Nat} {ret : Option FieldType} {hh : List (Nat × Nat × Nat × Nat)}
    (hown : s.vm.findClass own = some m.cls) (hlink : (Cond.methodLink own index y).before args s = true) (hinst : (Cond.instanceMethod y).before args s = true) (hsel : (Cond.selects C y y).before args s = true)
    (hcode : (Cond.codeWith y bytes maxL ret hh).before args s = true) (hy : y.cls ≠ "java/lang/invoke/MethodHandle" ∧ y.cls ≠ "java/lang/invoke/VarHandle")
    {W9 : Nat} {Pre : Pt → Array Value → Prop} {Post : Pt → Array Value → Option Value → Pt → Prop} {PostX : Pt → Array Value → Addr → Pt → Prop} (hK : vx_Back l R p e below s args y 3 W9 Pre Post PostX)
    {b : Addr} {cellB : Cell} (hcell : T.heap[b]? = some cellB) (hobj : cellB.vm.isStatics = false) (hcls : s.vm.findClass C = some cellB.cls)
    {g : JFrame} (hg : g.method = m) (hsize : g.locals.size = c.maxLocals) {argsL rest : List Value} (hlen : ∀ sig, parseMethodDescriptor y.desc = some sig → argsL.length = sig.parameters.length)
    (hstack : g.stack = argsL.reverse ++ .ref b :: rest) (hW : 2 * g.monitorRoom + (rest.map fun v => v.category).sum ≤ W9) (hdg : decode c.code g.pc = .ok (.invokevirtual index, 3))
    (hpre : ∀ vm₁, s.WarmedH vm₁ → Pre ⟨T.setVm vm₁, locs, cells, slots⟩ (Value.ref b :: argsL).toArray) :
    (∃ (v : Option Value) (vm₁ : Vm) (B : Pt), s.WarmedH vm₁ ∧ Stand p l e R s m args below meth c B.U B.locs B.cells B.slots ∧ Post ⟨T.setVm vm₁, locs, cells, slots⟩ (Value.ref b :: argsL).toArray v B ∧
      ∀ target, Steps p.tables e below (B.U.setTop { g with pc := g.pc + 3, stack := v.toList ++ rest }) target → Steps p.tables e below (T.setTop g) target) ∨
    (∃ (q : Addr) (vm₁ : Vm) (B : Pt), s.WarmedH vm₁ ∧ Stand p l e R s m args below meth c B.U B.locs B.cells B.slots ∧ PostX ⟨T.setVm vm₁, locs, cells, slots⟩ (Value.ref b :: argsL).toArray q B ∧
      Steps p.tables e below (T.setTop g) ((B.U.setTop { g with stack := rest }).pushFrame (.throwing q))) := by
  obtain ⟨mk, methM, hnamed, hmethM, hstM, habM⟩ := Cond.instanceMethod_spec hinst
  obtain ⟨m8, methM', cM, hn8, hmethM', -, -, -, -, -, -, hsigM⟩ := Cond.codeWith_spec hcode
  cases Option.some.inj (hn8.symm.trans hnamed)
  cases hmethM.symm.trans hmethM'
  obtain ⟨c2, r2, m2, q1, q2, q3, q4, kP, hkP, hkPi⟩ := Cond.selects_spec hsel
  cases hcls.symm.trans q1
  cases (State.methodFound?_of_named hnamed hy).symm.trans q2
  cases hnamed.symm.trans q3
  have hselP : selectMethod e.platform s.vm cellB.cls mk = .method mk := by rw [Launch.admits_selectMethod X.admits]; exact q4
  obtain ⟨vm₁, X₁, hstep₁⟩ := X.invokevirtual hexec hown hlink hnamed hmethM hstM hkP hkPi hy (a := b) (cell := cellB) hcell
    (fun z h => by rw [h] at hobj; cases hobj) hselP hmethM habM hkP hkPi (g := g) hg (argsL := argsL) (rest := rest) (hlen _ hsigM) hstack hdg
  rcases hK m meth c ⟨T.setVm vm₁, locs, cells, slots⟩ { g with stack := rest } (.invokevirtual index) mk (Value.ref b :: argsL).toArray X₁ hg hsize hdg hW (X₁.named hnamed) (hpre vm₁ X₁.warmed) with ⟨v, B, X', hpost, hsteps⟩ | ⟨q, B, X', hpost, hsteps⟩
  · exact Or.inl ⟨v, vm₁, B, X₁.warmed, X', hpost, fun target h => hstep₁ _ fun acts => by rw [doInvoke_state]; exact hsteps.trans h⟩
  · exact Or.inr ⟨q, vm₁, B, X₁.warmed, X', hpost, hstep₁ _ fun acts => by rw [doInvoke_state]; exact hsteps⟩
theorem vx_callSX (X : Stand p l e R s m args below meth c T locs cells slots) (hexec : p.tables.exec = Jvm.exec) {own : String} {index : Nat} {y : MethodName} {bytes : ByteArray} {maxL : Nat} {ret : Option FieldType} {hh : List (Nat × Nat × Nat × Nat)}
    (hown : s.vm.findClass own = some m.cls) (hlink : (Cond.methodLink own index y).before args s = true) (hstat : (Cond.static y).before args s = true) (hinit : (Cond.initialized y.cls).before args s = true)
    (hcode : (Cond.codeWith y bytes maxL ret hh).before args s = true) (hy : y.cls ≠ "java/lang/invoke/MethodHandle" ∧ y.cls ≠ "java/lang/invoke/VarHandle")
    {W9 : Nat} {Pre : Pt → Array Value → Prop} {Post : Pt → Array Value → Option Value → Pt → Prop} {PostX : Pt → Array Value → Addr → Pt → Prop} (hK : vx_Back l R p e below s args y 3 W9 Pre Post PostX)
    {g : JFrame} (hg : g.method = m) (hsize : g.locals.size = c.maxLocals) {argsL rest : List Value} (hlen : ∀ sig, parseMethodDescriptor y.desc = some sig → argsL.length = sig.parameters.length)
    (hstack : g.stack = argsL.reverse ++ rest) (hW : 2 * g.monitorRoom + (rest.map fun v => v.category).sum ≤ W9) (hdg : decode c.code g.pc = .ok (.invokestatic index, 3))
    (hpre : ∀ vm₁, s.WarmedH vm₁ → Pre ⟨T.setVm vm₁, locs, cells, slots⟩ argsL.toArray) :
    (∃ (v : Option Value) (vm₁ : Vm) (B : Pt), s.WarmedH vm₁ ∧ Stand p l e R s m args below meth c B.U B.locs B.cells B.slots ∧ Post ⟨T.setVm vm₁, locs, cells, slots⟩ argsL.toArray v B ∧
      ∀ target, Steps p.tables e below (B.U.setTop { g with pc := g.pc + 3, stack := v.toList ++ rest }) target → Steps p.tables e below (T.setTop g) target) ∨
    (∃ (q : Addr) (vm₁ : Vm) (B : Pt), s.WarmedH vm₁ ∧ Stand p l e R s m args below meth c B.U B.locs B.cells B.slots ∧ PostX ⟨T.setVm vm₁, locs, cells, slots⟩ argsL.toArray q B ∧
      Steps p.tables e below (T.setTop g) ((B.U.setTop { g with stack := rest }).pushFrame (.throwing q))) := by
  obtain ⟨mk, methM, cM, hnamed, hmethM, -, -, -, -, -, -, hsigM⟩ := Cond.codeWith_spec hcode
  have hstatic : methM.isStatic = true := Cond.static_spec hnamed hmethM hstat
  obtain ⟨kP, hkP, -⟩ := className_of_methodNamed hnamed
  have hinitP : kP.init = .initialized := Cond.initialized_spec (findClass_of_methodNamed hnamed) hkP hinit
  obtain ⟨vm₁, X₁, hstep₁⟩ := X.invokestatic hexec hown hlink hnamed hmethM hstatic hkP hinitP hy (g := g) hg (argsL := argsL) (rest := rest) (hlen _ hsigM) hstack hdg
  rcases hK m meth c ⟨T.setVm vm₁, locs, cells, slots⟩ { g with stack := rest } (.invokestatic index) mk argsL.toArray X₁ hg hsize hdg hW (X₁.named hnamed) (hpre vm₁ X₁.warmed) with ⟨v, B, X', hpost, hsteps⟩ | ⟨q, B, X', hpost, hsteps⟩
  · exact Or.inl ⟨v, vm₁, B, X₁.warmed, X', hpost, fun target h => hstep₁ _ fun acts => by rw [doInvoke_state]; exact hsteps.trans h⟩
  · exact Or.inr ⟨q, vm₁, B, X₁.warmed, X', hpost, hstep₁ _ fun acts => by rw [doInvoke_state]; exact hsteps⟩
theorem vx_callVW (X : Stand p l e R s m args below meth c T locs cells slots) (hexec : p.tables.exec = Jvm.exec) {own C : String} {index : Nat} {y : MethodName} {bytes : ByteArray} {maxL : Nat} {ret : Option FieldType} {hh : List (Nat × Nat × Nat × Nat)}
    (hown : s.vm.findClass own = some m.cls) (hlink : (Cond.methodLink own index y).before args s = true) (hinst : (Cond.instanceMethod y).before args s = true) (hsel : (Cond.selects C y y).before args s = true)
    (hcode : (Cond.codeWith y bytes maxL ret hh).before args s = true) (hy : y.cls ≠ "java/lang/invoke/MethodHandle" ∧ y.cls ≠ "java/lang/invoke/VarHandle")
    {W9 : Nat} {Pre : Pt → Array Value → Prop} {Post : Pt → Array Value → Option Value → Pt → Prop} (hK : Back l R p e below s args y 3 W9 Pre Post)
    {b : Addr} {cellB : Cell} (hcell : T.heap[b]? = some cellB) (hobj : cellB.vm.isStatics = false) (hcls : s.vm.findClass C = some cellB.cls)
    {g : JFrame} (hg : g.method = m) (hsize : g.locals.size = c.maxLocals) {argsL rest : List Value} (hlen : ∀ sig, parseMethodDescriptor y.desc = some sig → argsL.length = sig.parameters.length)
    (hstack : g.stack = argsL.reverse ++ .ref b :: rest) (hW : 2 * g.monitorRoom + (rest.map fun v => v.category).sum ≤ W9) (hdg : decode c.code g.pc = .ok (.invokevirtual index, 3))
    (hpre : ∀ vm₁, s.WarmedH vm₁ → Pre ⟨T.setVm vm₁, locs, cells, slots⟩ (Value.ref b :: argsL).toArray) :
    ∃ (v : Option Value) (vm₁ : Vm) (B : Pt), s.WarmedH vm₁ ∧ Stand p l e R s m args below meth c B.U B.locs B.cells B.slots ∧ Post ⟨T.setVm vm₁, locs, cells, slots⟩ (Value.ref b :: argsL).toArray v B ∧
      ∀ target, Steps p.tables e below (B.U.setTop { g with pc := g.pc + 3, stack := v.toList ++ rest }) target → Steps p.tables e below (T.setTop g) target := by
  obtain ⟨mk, methM, hnamed, hmethM, hstM, habM⟩ := Cond.instanceMethod_spec hinst
  obtain ⟨m8, methM', cM, hn8, hmethM', -, -, -, -, -, -, hsigM⟩ := Cond.codeWith_spec hcode
  cases Option.some.inj (hn8.symm.trans hnamed)
  cases hmethM.symm.trans hmethM'
  obtain ⟨c2, r2, m2, q1, q2, q3, q4, kP, hkP, hkPi⟩ := Cond.selects_spec hsel
  cases hcls.symm.trans q1
  cases (State.methodFound?_of_named hnamed hy).symm.trans q2
  cases hnamed.symm.trans q3
  have hselP : selectMethod e.platform s.vm cellB.cls mk = .method mk := by rw [Launch.admits_selectMethod X.admits]; exact q4
  obtain ⟨vm₁, X₁, hstep₁⟩ := X.invokevirtual hexec hown hlink hnamed hmethM hstM hkP hkPi hy (a := b) (cell := cellB) hcell
    (fun z h => by rw [h] at hobj; cases hobj) hselP hmethM habM hkP hkPi (g := g) hg (argsL := argsL) (rest := rest) (hlen _ hsigM) hstack hdg
  obtain ⟨v, B, X', hpost, hsteps⟩ := hK m meth c ⟨T.setVm vm₁, locs, cells, slots⟩ { g with stack := rest } (.invokevirtual index) mk (Value.ref b :: argsL).toArray X₁ hg hsize hdg hW (X₁.named hnamed) (hpre vm₁ X₁.warmed)
  exact ⟨v, vm₁, B, X₁.warmed, X', hpost, fun target h => hstep₁ _ fun acts => by rw [doInvoke_state]; exact hsteps.trans h⟩
abbrev vx_CVW (R : Room) (s : State) (args : Array Value) (own C : String) (index : Nat) (y : MethodName) (bytes : ByteArray) (maxL : Nat) (ret : Option FieldType) (hh : List (Nat × Nat × Nat × Nat)) (ws : List Cond) (rm : Room) (mc ms n : Nat) : Prop :=
  (rm.cells = mc ∧ rm.slots = ms ∧ rm.frames + 1 ≤ R.frames ∧ 8 + (maxL + 11) + rm.locals ≤ R.locals ∧ (∀ w ∈ ws, ∀ (a' : Array Value) (U : State), s.WarmedH U.vm → w.before a' U = true) ∧ Cond.codeWith y bytes maxL ret hh ∈ ws) ∧
  (Cond.codeWith y bytes maxL ret hh).before args s = true ∧ (Cond.initialized y.cls).before args s = true ∧ (y.cls ≠ "java/lang/invoke/MethodHandle" ∧ y.cls ≠ "java/lang/invoke/VarHandle") ∧
  (∀ sig, parseMethodDescriptor y.desc = some sig → n = sig.parameters.length) ∧ (Cond.methodLink own index y).before args s = true ∧ (Cond.instanceMethod y).before args s = true ∧ (Cond.selects C y y).before args s = true
theorem vx_cwVW {own C : String} {index maxL mc ms : Nat} {y : MethodName} {bytes : ByteArray} {ret : Option FieldType} {hh : List (Nat × Nat × Nat × Nat)} {Ts ws ws' : List Cond} {rm : Room} (n : Nat) (ht : ∀ w ∈ Ts, w.before args s = true) (hT : GoodIn Ts (wsV own index C y ws)) (hw : ws = Cond.codeWith y bytes maxL ret hh :: ws') (hrc : rm.cells = mc) (hrs : rm.slots = ms)
    (hd : y.cls = C ∧ y.cls ≠ "java/lang/invoke/MethodHandle" ∧ y.cls ≠ "java/lang/invoke/VarHandle" ∧ (parseMethodDescriptor y.desc).map (fun d => d.parameters.length) = some n) (hR : rm.frames + 1 ≤ R.frames ∧ 8 + (maxL + 11) + rm.locals ≤ R.locals) :
    vx_CVW R s args own C index y bytes maxL ret hh ws rm mc ms n := by
  obtain ⟨hC, hd⟩ := hd
  subst hC
  have ok : ∀ w ∈ wsV own index y.cls y ws, w.before args s = true := fun w h => ht w (hT w h).1
  have hG : GoodIn Ts ws := fun w h => hT w (by unfold wsV; exact List.mem_append_right _ h)
  have hc : Cond.codeWith y bytes maxL ret hh ∈ ws := by rw [hw]; exact List.mem_cons_self
  refine ⟨⟨hrc, hrs, hR.1, hR.2, pay_in ht hG, hc⟩, ht _ (hG _ hc).1, ok _ (by simp [wsV]), ⟨hd.1, hd.2.1⟩, fun sig h => ?_, ok _ (by simp [wsV]), ok _ (by simp [wsV]), ok _ (by simp [wsV])⟩
  have h2 := hd.2.2
  rw [h] at h2
  exact (Option.some.inj h2).symm
theorem vx_runVW {y : MethodName} {bytes cc : ByteArray} {maxL nL mc ms n index : Nat} {ret : Option FieldType} {hh : List (Nat × Nat × Nat × Nat)} {ws : List Cond} {rm : Room} {Pc : Array Value → State → Prop} {Qc : Array Value → State → Outcome → State → Prop} {free : Addr → Prop} {Ts : List Cond} {own C : String} {b : Addr} {As rest : List Value} {g : JFrame}
    (S : CallFix p m c cc nL s args Ts own) (hM : Met l y ws rm Pc Qc mc ms free) (cw : vx_CVW R s args own C index y bytes maxL ret hh ws rm mc ms n) (hp : PreV s H C b Pc As)
    (hg : g.method = m) (hn : As.length = n) (hsize : g.locals.size = nL) (hstack : g.stack = As.reverse ++ .ref b :: rest) (hW : 2 * g.monitorRoom + (rest.map fun v => v.category).sum ≤ 8) (hdg : decode cc g.pc = .ok (.invokevirtual index, 3)) (hf : cells + mc ≤ R.cells ∧ slots + ms ≤ R.slots) :
    va_Run p l e R s m args below meth c H locs cells slots mc ms g rest (Qc (Value.ref b :: As).toArray) free := by
  obtain ⟨⟨hrc, hrs, hfr, hlo, hws, hcw⟩, hcode, hini, hy, hlen, hl, hin, hse⟩ := cw
  have hK : Back l R p e below s args y 3 8 (PreOf R mc ms Pc) (PostOf Qc mc ms free) := va_backW (hh := hh) (bytes := bytes) (maxL := maxL) (ret := ret) hM hp.1 hrc hrs hfr hlo hws hcw (fun a' U hW => word_at hW (Or.inl (by first | rfl | simp [Cond.onTables, Cond.keeps, Cond.steady])) hini)
  obtain ⟨hx, hb, hml, ho, -⟩ := S
  obtain ⟨-, ⟨cellB, hcB, hoB, hclB⟩, hPc⟩ := hp
  intro T hT X
  obtain ⟨v, vm₁, ⟨U', l2, c2, s2⟩, hW₁, X', ⟨g', mk, t, L, e1, e2, hq, h1, hL, h2, h3⟩, st⟩ := vx_callVW X hx (C := C) (hh := hh) (bytes := bytes) (maxL := maxL) (ret := ret) ho hl hin hse hcode hy hK (by rw [hT]; exact hcB) hoB hclB hg (hsize.trans hml.symm) (argsL := As) (rest := rest) (fun sig h => hn.trans (hlen sig h)) hstack hW (by rw [hb]; exact hdg)
    (fun vm₁ hW₁ => ⟨hf.1, hf.2, hPc (T.setVm vm₁) hT hW₁⟩)
  dsimp only [Pt.U, Pt.locs, Pt.cells, Pt.slots] at X' e1 e2 h1 h2 h3 st
  subst h1; subst h2; subst h3
  exact ⟨v, (T.setVm vm₁).calling g' mk (Value.ref b :: As).toArray, t, U', L, hT, X', hL, e1, e2, hq, st⟩
section
variable {y : MethodName} {bytes cc : ByteArray} {maxL nL mc ms n index : Nat} {ret : Option FieldType} {ws : List Cond} {rm : Room} {Pc : Array Value → State → Prop} {Qc : Array Value → State → Outcome → State → Prop} {XC : String → State → State → Prop} {free : Addr → Prop} {Ts : List Cond} {own C : String} {b : Addr} {As rest : List Value} {g : JFrame}
theorem vx_runVX {hh : List (Nat × Nat × Nat × Nat)} (S : CallFix p m c cc nL s args Ts own) (hM : vx_Met l y ws rm Pc Qc XC mc ms free) (cw : vx_CVW R s args own C index y bytes maxL ret hh ws rm mc ms n) (hp : PreV s H C b Pc As)
    (hg : g.method = m) (hn : As.length = n) (hsize : g.locals.size = nL) (hstack : g.stack = As.reverse ++ .ref b :: rest) (hW : 2 * g.monitorRoom + (rest.map fun v => v.category).sum ≤ 8) (hdg : decode cc g.pc = .ok (.invokevirtual index, 3)) (hf : cells + mc ≤ R.cells ∧ slots + ms ≤ R.slots) :
    vx_Run p l e R s m args below meth c H locs cells slots mc ms g rest (Qc (Value.ref b :: As).toArray) XC free := by
  obtain ⟨⟨hrc, hrs, hfr, hlo, hws, hcw⟩, hcode, hini, hy, hlen, hl, hin, hse⟩ := cw
  have hK : vx_Back l R p e below s args y 3 8 (PreOf R mc ms Pc) (PostOf Qc mc ms free) (vx_Post XC mc ms free) := vx_backW (hh := hh) (bytes := bytes) (maxL := maxL) (ret := ret) hM hp.1 hrc hrs hfr hlo hws hcw (fun a' U hW => word_at hW (Or.inl (by first | rfl | simp [Cond.onTables, Cond.keeps, Cond.steady])) hini)
  obtain ⟨hx, hb, hml, ho, -⟩ := S
  obtain ⟨-, ⟨cellB, hcB, hoB, hclB⟩, hPc⟩ := hp
  intro T hT X
  rcases vx_callVX X hx (C := C) (hh := hh) (bytes := bytes) (maxL := maxL) (ret := ret) ho hl hin hse hcode hy hK (by rw [hT]; exact hcB) hoB hclB hg (hsize.trans hml.symm) (argsL := As) (rest := rest) (fun sig h => hn.trans (hlen sig h)) hstack hW (by rw [hb]; exact hdg)
    (fun vm₁ hW₁ => ⟨hf.1, hf.2, hPc (T.setVm vm₁) hT hW₁⟩) with ⟨v, vm₁, ⟨U', l2, c2, s2⟩, hW₁, X', ⟨g', mk, t, L, e1, e2, hq, h1, hL, h2, h3⟩, st⟩ | ⟨q, vm₁, ⟨U', l2, c2, s2⟩, hW₁, X', ⟨g', mk, t, L, E, ce, e1, e2, hq, hce, hcv, hcl, h1, hL, h2, h3⟩, st⟩
  · dsimp only [Pt.U, Pt.locs, Pt.cells, Pt.slots] at X' e1 e2 h1 h2 h3 st
    subst h1; subst h2; subst h3
    exact Or.inl ⟨v, (T.setVm vm₁).calling g' mk (Value.ref b :: As).toArray, t, U', L, hT, X', hL, e1, e2, hq, st⟩
  · dsimp only [Pt.U, Pt.locs, Pt.cells, Pt.slots] at X' e1 e2 h1 h2 h3 st hcl
    subst h1; subst h2; subst h3
    exact Or.inr ⟨q, (T.setVm vm₁).calling g' mk (Value.ref b :: As).toArray, t, U', L, E, ce, hT, X', hL, e1, e2, hq, hce, hcv, vx_cls hW₁ hcl, st⟩
theorem vx_runSX {hh : List (Nat × Nat × Nat × Nat)} (S : CallFix p m c cc nL s args Ts own) (hM : vx_Met l y ws rm Pc Qc XC mc ms free) (cw : vx_CSW R s args own index y bytes maxL ret hh ws rm mc ms n) (hp : PreS s H Pc As)
    (hg : g.method = m) (hn : As.length = n) (hsize : g.locals.size = nL) (hstack : g.stack = As.reverse ++ rest) (hW : 2 * g.monitorRoom + (rest.map fun v => v.category).sum ≤ 8) (hdg : decode cc g.pc = .ok (.invokestatic index, 3)) (hf : cells + mc ≤ R.cells ∧ slots + ms ≤ R.slots) :
    vx_Run p l e R s m args below meth c H locs cells slots mc ms g rest (Qc As.toArray) XC free := by
  obtain ⟨⟨hrc, hrs, hfr, hlo, hws, hcw⟩, hcode, hini, hy, hlen, hl, hstt⟩ := cw
  have hK : vx_Back l R p e below s args y 3 8 (PreOf R mc ms Pc) (PostOf Qc mc ms free) (vx_Post XC mc ms free) := vx_backW (hh := hh) (bytes := bytes) (maxL := maxL) (ret := ret) hM hp.1 hrc hrs hfr hlo hws hcw (fun a' U hW => word_at hW (Or.inl (by first | rfl | simp [Cond.onTables, Cond.keeps, Cond.steady])) hini)
  obtain ⟨hx, hb, hml, ho, -⟩ := S
  intro T hT X
  rcases vx_callSX X hx (hh := hh) (bytes := bytes) (maxL := maxL) (ret := ret) ho hl hstt hini hcode hy hK hg (hsize.trans hml.symm) (argsL := As) (rest := rest) (fun sig h => hn.trans (hlen sig h)) hstack hW (by rw [hb]; exact hdg)
    (fun vm₁ hW₁ => ⟨hf.1, hf.2, hp.2 (T.setVm vm₁) hT hW₁⟩) with ⟨v, vm₁, ⟨U', l2, c2, s2⟩, hW₁, X', ⟨g', mk, t, L, e1, e2, hq, h1, hL, h2, h3⟩, st⟩ | ⟨q, vm₁, ⟨U', l2, c2, s2⟩, hW₁, X', ⟨g', mk, t, L, E, ce, e1, e2, hq, hce, hcv, hcl, h1, hL, h2, h3⟩, st⟩
  · dsimp only [Pt.U, Pt.locs, Pt.cells, Pt.slots] at X' e1 e2 h1 h2 h3 st
    subst h1; subst h2; subst h3
    exact Or.inl ⟨v, (T.setVm vm₁).calling g' mk As.toArray, t, U', L, hT, X', hL, e1, e2, hq, st⟩
  · dsimp only [Pt.U, Pt.locs, Pt.cells, Pt.slots] at X' e1 e2 h1 h2 h3 st hcl
    subst h1; subst h2; subst h3
    exact Or.inr ⟨q, (T.setVm vm₁).calling g' mk As.toArray, t, U', L, E, ce, hT, X', hL, e1, e2, hq, hce, hcv, vx_cls hW₁ hcl, st⟩
end
end VXH
theorem vx_ofWH {l : Launch} {y : MethodName} {ws ws' : List Cond} {rm : Room} {Pc : Array Value → State → Prop} {Qc : Array Value → State → Outcome → State → Prop} {XC : String → State → State → Prop} {mc ms : Nat} {free : Addr → Prop} {cc : ByteArray} {maxL : Nat} {ret : Option FieldType} {hh : List (Nat × Nat × Nat × Nat)}
    (hy : plainName y.cls = true) (hw : ws = Cond.codeWith y cc maxL ret hh :: ws')
    (body : ∀ p e s m args below meth c s₁, BodyLoose p l y (headSpec ws rm) cc maxL ret e s m args below meth c s₁ → c.maxLocals = maxL → Pc args s →
      W p l e (headSpec ws rm).room s m args below meth c s.heap [] 0 0 (vx_MQ below Qc XC args s mc ms free) (entryFrame m args maxL)) : vx_Met l y ws rm Pc Qc XC mc ms free := by
  refine MetFree.of_bodyS (code := cc) (maxLocals := maxL) (ret := ret) hy ?_ ?_
  · intro args s m h hn
    obtain ⟨m9, meth, c, hn9, h1, h2, h3, h4, -, h5, h6, -⟩ := Cond.codeWith_spec (atoms_spec (ws := ws) h _ (by rw [hw]; exact List.mem_cons_self))
    cases hn.symm.trans hn9
    exact ⟨meth, c, h1, h2, h3, h4, h5, h6⟩
  · intro p e s m args below meth c s₁ B hml hP _
    have hh0 : s₁.heap = s.heap := by rw [B.state]; rfl
    obtain ⟨t, a1, o, b1, b2, b3⟩ := body p e s m args below meth c s₁ B hml hP s₁ hh0 (Stand.of_body B)
    exact ⟨t, o, a1, b1, b2, b3⟩
/-! ===== END ===== -/
end
section
def RX0 : String := "FeedTower$App"
def TX0 : u_T := fun k => match k with
  | 0 => ("FeedTower$App", "show", "I", true)
  | 1 => ("FeedTower$App", "toldItems", "Ljava/util/ArrayList;", true)
  | _ => ("FeedTower$App", "changesSeen", "I", false)
def tyX0 : Nat → FieldType := fun k => match k with
  | 0 => .int
  | 1 => .object "java/util/ArrayList"
  | _ => .int
theorem nmX0 : ∀ a, a < 3 → ∀ b, b < 3 → a ≠ b → (TX0 a).2.1 ≠ (TX0 b).2.1 := by decide +kernel
theorem tyX0_ok : ∀ k, k < 3 → parseFieldDescriptor (TX0 k).2.2.1 = some (tyX0 k) := by decide +kernel
abbrev cX0_init : ByteArray := prog_2_method_1_code
def yX0_init : MethodName := ⟨RX0, "<init>", "(I)V"⟩
def RX1 : String := "FeedTower$Campaign"
def TX1 : u_T := fun k => match k with
  | _ => ("", "", "", false)
def tyX1 : Nat → FieldType := fun k => match k with
  | _ => .int
theorem nmX1 : ∀ a, a < 0 → ∀ b, b < 0 → a ≠ b → (TX1 a).2.1 ≠ (TX1 b).2.1 := by decide +kernel
theorem tyX1_ok : ∀ k, k < 0 → parseFieldDescriptor (TX1 k).2.2.1 = some (tyX1 k) := by decide +kernel
def RX2 : String := "FeedTower$Download"
def TX2 : u_T := fun k => match k with
  | _ => ("", "", "", false)
def tyX2 : Nat → FieldType := fun k => match k with
  | _ => .int
theorem nmX2 : ∀ a, a < 0 → ∀ b, b < 0 → a ≠ b → (TX2 a).2.1 ≠ (TX2 b).2.1 := by decide +kernel
theorem tyX2_ok : ∀ k, k < 0 → parseFieldDescriptor (TX2 k).2.2.1 = some (tyX2 k) := by decide +kernel
def RX3 : String := "FeedTower$Item"
def TX3 : u_T := fun k => match k with
  | 0 => ("FeedTower$Item", "number", "I", true)
  | 1 => ("FeedTower$Item", "show", "I", true)
  | 2 => ("FeedTower$Item", "hour", "I", true)
  | 3 => ("FeedTower$Item", "parts", "Ljava/util/ArrayList;", true)
  | _ => ("FeedTower$Item", "isWithdrawn", "Z", false)
def tyX3 : Nat → FieldType := fun k => match k with
  | 0 => .int
  | 1 => .int
  | 2 => .int
  | 3 => .object "java/util/ArrayList"
  | _ => .boolean
theorem nmX3 : ∀ a, a < 5 → ∀ b, b < 5 → a ≠ b → (TX3 a).2.1 ≠ (TX3 b).2.1 := by decide +kernel
theorem tyX3_ok : ∀ k, k < 5 → parseFieldDescriptor (TX3 k).2.2.1 = some (tyX3 k) := by decide +kernel
abbrev cX3_init : ByteArray := prog_5_method_1_code
def yX3_init : MethodName := ⟨RX3, "<init>", "(IIILjava/util/ArrayList;)V"⟩
abbrev cX3_partAt : ByteArray := prog_5_method_2_code
def yX3_partAt : MethodName := ⟨RX3, "partAt", "(I)LFeedTower$Part;"⟩
abbrev cX3_uncutParts : ByteArray := prog_5_method_3_code
def yX3_uncutParts : MethodName := ⟨RX3, "uncutParts", "()I"⟩
abbrev cX3_uncutSeconds : ByteArray := prog_5_method_4_code
def yX3_uncutSeconds : MethodName := ⟨RX3, "uncutSeconds", "()I"⟩
def RX4 : String := "FeedTower$Part"
def TX4 : u_T := fun k => match k with
  | 0 => ("FeedTower$Part", "kind", "I", true)
  | 1 => ("FeedTower$Part", "seconds", "I", true)
  | 2 => ("FeedTower$Part", "songOrPlace", "I", true)
  | 3 => ("FeedTower$Part", "isCut", "Z", false)
  | _ => ("FeedTower$Part", "listenersTold", "I", false)
def tyX4 : Nat → FieldType := fun k => match k with
  | 0 => .int
  | 1 => .int
  | 2 => .int
  | 3 => .boolean
  | _ => .int
theorem nmX4 : ∀ a, a < 5 → ∀ b, b < 5 → a ≠ b → (TX4 a).2.1 ≠ (TX4 b).2.1 := by decide +kernel
theorem tyX4_ok : ∀ k, k < 5 → parseFieldDescriptor (TX4 k).2.2.1 = some (tyX4 k) := by decide +kernel
abbrev cX4_init : ByteArray := prog_6_method_1_code
def yX4_init : MethodName := ⟨RX4, "<init>", "(III)V"⟩
def RX5 : String := "FeedTower$Piece"
def TX5 : u_T := fun k => match k with
  | _ => ("", "", "", false)
def tyX5 : Nat → FieldType := fun k => match k with
  | _ => .int
theorem nmX5 : ∀ a, a < 0 → ∀ b, b < 0 → a ≠ b → (TX5 a).2.1 ≠ (TX5 b).2.1 := by decide +kernel
theorem tyX5_ok : ∀ k, k < 0 → parseFieldDescriptor (TX5 k).2.2.1 = some (tyX5 k) := by decide +kernel
def RX6 : String := "FeedTower$Range"
def TX6 : u_T := fun k => match k with
  | _ => ("", "", "", false)
def tyX6 : Nat → FieldType := fun k => match k with
  | _ => .int
theorem nmX6 : ∀ a, a < 0 → ∀ b, b < 0 → a ≠ b → (TX6 a).2.1 ≠ (TX6 b).2.1 := by decide +kernel
theorem tyX6_ok : ∀ k, k < 0 → parseFieldDescriptor (TX6 k).2.2.1 = some (tyX6 k) := by decide +kernel
def RX7 : String := "FeedTower"
def TX7 : u_T := fun k => match k with
  | 0 => ("FeedTower", "items", "Ljava/util/ArrayList;", true)
  | 1 => ("FeedTower", "changes", "Ljava/util/ArrayList;", true)
  | 2 => ("FeedTower", "apps", "Ljava/util/ArrayList;", true)
  | 3 => ("FeedTower", "campaigns", "Ljava/util/ArrayList;", true)
  | 4 => ("FeedTower", "downloads", "Ljava/util/ArrayList;", true)
  | 5 => ("FeedTower", "draft", "Ljava/util/ArrayList;", false)
  | 6 => ("FeedTower", "now", "I", false)
  | 7 => ("FeedTower", "songsOut", "I", false)
  | 8 => ("FeedTower", "bots", "I", false)
  | _ => ("FeedTower", "ranges", "I", false)
def tyX7 : Nat → FieldType := fun k => match k with
  | 0 => .object "java/util/ArrayList"
  | 1 => .object "java/util/ArrayList"
  | 2 => .object "java/util/ArrayList"
  | 3 => .object "java/util/ArrayList"
  | 4 => .object "java/util/ArrayList"
  | 5 => .object "java/util/ArrayList"
  | 6 => .int
  | 7 => .int
  | 8 => .int
  | _ => .int
theorem nmX7 : ∀ a, a < 10 → ∀ b, b < 10 → a ≠ b → (TX7 a).2.1 ≠ (TX7 b).2.1 := by decide +kernel
theorem tyX7_ok : ∀ k, k < 10 → parseFieldDescriptor (TX7 k).2.2.1 = some (tyX7 k) := by decide +kernel
abbrev cX7_init : ByteArray := prog_1_method_1_code
def yX7_init : MethodName := ⟨RX7, "<init>", "()V"⟩
abbrev cX7_talk : ByteArray := prog_1_method_2_code
def yX7_talk : MethodName := ⟨RX7, "talk", "(I)I"⟩
abbrev cX7_music : ByteArray := prog_1_method_3_code
def yX7_music : MethodName := ⟨RX7, "music", "(II)I"⟩
abbrev cX7_slot : ByteArray := prog_1_method_4_code
def yX7_slot : MethodName := ⟨RX7, "slot", "(I)I"⟩
abbrev cX7_item : ByteArray := prog_1_method_5_code
def yX7_item : MethodName := ⟨RX7, "item", "(II)I"⟩
abbrev cX7_cut : ByteArray := prog_1_method_6_code
def yX7_cut : MethodName := ⟨RX7, "cut", "(II)I"⟩
abbrev cX7_withdraw : ByteArray := prog_1_method_7_code
def yX7_withdraw : MethodName := ⟨RX7, "withdraw", "(I)V"⟩
abbrev cX7_songOut : ByteArray := prog_1_method_8_code
def yX7_songOut : MethodName := ⟨RX7, "songOut", "(I)I"⟩
abbrev cX7_pass : ByteArray := prog_1_method_9_code
def yX7_pass : MethodName := ⟨RX7, "pass", "(I)I"⟩
abbrev cX7_app : ByteArray := prog_1_method_10_code
def yX7_app : MethodName := ⟨RX7, "app", "(I)I"⟩
abbrev cX7_poll : ByteArray := prog_1_method_11_code
def yX7_poll : MethodName := ⟨RX7, "poll", "(I)I"⟩
abbrev cX7_hour : ByteArray := prog_1_method_17_code
def yX7_hour : MethodName := ⟨RX7, "hour", "()I"⟩
abbrev cX7_ofItem : ByteArray := prog_1_method_18_code
def yX7_ofItem : MethodName := ⟨RX7, "ofItem", "(II)I"⟩
abbrev cX7_ofPart : ByteArray := prog_1_method_19_code
def yX7_ofPart : MethodName := ⟨RX7, "ofPart", "(III)I"⟩
abbrev cX7_told : ByteArray := prog_1_method_20_code
def yX7_told : MethodName := ⟨RX7, "told", "(II)I"⟩
abbrev cX7_isIn : ByteArray := prog_1_method_28_code
def yX7_isIn : MethodName := ⟨RX7, "isIn", "(III)Z"⟩
abbrev cX7_hasBit : ByteArray := prog_1_method_29_code
def yX7_hasBit : MethodName := ⟨RX7, "hasBit", "(II)Z"⟩
abbrev cX7_withBit : ByteArray := prog_1_method_30_code
def yX7_withBit : MethodName := ⟨RX7, "withBit", "(II)I"⟩
abbrev cX7_needShow : ByteArray := prog_1_method_31_code
def yX7_needShow : MethodName := ⟨RX7, "needShow", "(I)V"⟩
abbrev cX7_needSong : ByteArray := prog_1_method_32_code
def yX7_needSong : MethodName := ⟨RX7, "needSong", "(I)V"⟩
abbrev cX7_itemAt : ByteArray := prog_1_method_35_code
def yX7_itemAt : MethodName := ⟨RX7, "itemAt", "(I)LFeedTower$Item;"⟩
abbrev cX7_appAt : ByteArray := prog_1_method_36_code
def yX7_appAt : MethodName := ⟨RX7, "appAt", "(I)LFeedTower$App;"⟩
abbrev cX7_addToDraft : ByteArray := prog_1_method_39_code
def yX7_addToDraft : MethodName := ⟨RX7, "addToDraft", "(LFeedTower$Part;)I"⟩
abbrev cX7_isOut : ByteArray := prog_1_method_40_code
def yX7_isOut : MethodName := ⟨RX7, "isOut", "(LFeedTower$Part;)Z"⟩
abbrev cX7_isDraftOfUse : ByteArray := prog_1_method_41_code
def yX7_isDraftOfUse : MethodName := ⟨RX7, "isDraftOfUse", "()Z"⟩
abbrev cX7_cutWhatIsOut : ByteArray := prog_1_method_42_code
def yX7_cutWhatIsOut : MethodName := ⟨RX7, "cutWhatIsOut", "(LFeedTower$Item;)I"⟩
abbrev cX7_isReleased : ByteArray := prog_1_method_43_code
def yX7_isReleased : MethodName := ⟨RX7, "isReleased", "(LFeedTower$Item;)Z"⟩
abbrev cX7_noteChange : ByteArray := prog_1_method_44_code
def yX7_noteChange : MethodName := ⟨RX7, "noteChange", "(LFeedTower$Item;)V"⟩
abbrev cX7_releaseItemsOfThisHour : ByteArray := prog_1_method_45_code
def yX7_releaseItemsOfThisHour : MethodName := ⟨RX7, "releaseItemsOfThisHour", "()V"⟩
abbrev cX7_downloadsOf : ByteArray := prog_1_method_51_code
def yX7_downloadsOf : MethodName := ⟨RX7, "downloadsOf", "(I)I"⟩
def RX8 : String := "FeedTowerModel"
def TX8 : u_T := fun k => match k with
  | _ => ("", "", "", false)
def tyX8 : Nat → FieldType := fun k => match k with
  | _ => .int
theorem nmX8 : ∀ a, a < 0 → ∀ b, b < 0 → a ≠ b → (TX8 a).2.1 ≠ (TX8 b).2.1 := by decide +kernel
theorem tyX8_ok : ∀ k, k < 0 → parseFieldDescriptor (TX8 k).2.2.1 = some (tyX8 k) := by decide +kernel
def RJx145de : String := "java/io/Serializable"
def TJx145de : u_T := fun k => match k with
  | _ => ("", "", "", false)
def tyJx145de : Nat → FieldType := fun k => match k with
  | _ => .int
theorem nmJx145de : ∀ a, a < 0 → ∀ b, b < 0 → a ≠ b → (TJx145de a).2.1 ≠ (TJx145de b).2.1 := by decide +kernel
theorem tyJx145de_ok : ∀ k, k < 0 → parseFieldDescriptor (TJx145de k).2.2.1 = some (tyJx145de k) := by decide +kernel
def RJx8e188 : String := "java/lang/Cloneable"
def TJx8e188 : u_T := fun k => match k with
  | _ => ("", "", "", false)
def tyJx8e188 : Nat → FieldType := fun k => match k with
  | _ => .int
theorem nmJx8e188 : ∀ a, a < 0 → ∀ b, b < 0 → a ≠ b → (TJx8e188 a).2.1 ≠ (TJx8e188 b).2.1 := by decide +kernel
theorem tyJx8e188_ok : ∀ k, k < 0 → parseFieldDescriptor (TJx8e188 k).2.2.1 = some (tyJx8e188 k) := by decide +kernel
def RJxab1ab : String := "java/lang/Iterable"
def TJxab1ab : u_T := fun k => match k with
  | _ => ("", "", "", false)
def tyJxab1ab : Nat → FieldType := fun k => match k with
  | _ => .int
theorem nmJxab1ab : ∀ a, a < 0 → ∀ b, b < 0 → a ≠ b → (TJxab1ab a).2.1 ≠ (TJxab1ab b).2.1 := by decide +kernel
theorem tyJxab1ab_ok : ∀ k, k < 0 → parseFieldDescriptor (TJxab1ab k).2.2.1 = some (tyJxab1ab k) := by decide +kernel
def RJ9 : String := "java/lang/Math"
def TJ9 : u_T := fun k => match k with
  | _ => ("", "", "", false)
def tyJ9 : Nat → FieldType := fun k => match k with
  | _ => .int
theorem nmJ9 : ∀ a, a < 0 → ∀ b, b < 0 → a ≠ b → (TJ9 a).2.1 ≠ (TJ9 b).2.1 := by decide +kernel
theorem tyJ9_ok : ∀ k, k < 0 → parseFieldDescriptor (TJ9 k).2.2.1 = some (tyJ9 k) := by decide +kernel
abbrev cJ9_max_7cf53 : ByteArray := prog_18_method_65_code
def yJ9_max_7cf53 : MethodName := ⟨RJ9, "max", "(II)I"⟩
abbrev cJ9_min_7cf53 : ByteArray := prog_18_method_69_code
def yJ9_min_7cf53 : MethodName := ⟨RJ9, "min", "(II)I"⟩
def RJ0 : String := "java/lang/String"
def TJ0 : u_T := fun k => match k with
  | _ => ("", "", "", false)
def tyJ0 : Nat → FieldType := fun k => match k with
  | _ => .int
theorem nmJ0 : ∀ a, a < 0 → ∀ b, b < 0 → a ≠ b → (TJ0 a).2.1 ≠ (TJ0 b).2.1 := by decide +kernel
theorem tyJ0_ok : ∀ k, k < 0 → parseFieldDescriptor (TJ0 k).2.2.1 = some (tyJ0 k) := by decide +kernel
def RJ10 : String := "java/lang/System"
def TJ10 : u_T := fun k => match k with
  | _ => ("", "", "", false)
def tyJ10 : Nat → FieldType := fun k => match k with
  | _ => .int
theorem nmJ10 : ∀ a, a < 0 → ∀ b, b < 0 → a ≠ b → (TJ10 a).2.1 ≠ (TJ10 b).2.1 := by decide +kernel
theorem tyJ10_ok : ∀ k, k < 0 → parseFieldDescriptor (TJ10 k).2.2.1 = some (tyJ10 k) := by decide +kernel
def RJxa1e45 : String := "java/util/AbstractCollection"
def TJxa1e45 : u_T := fun k => match k with
  | _ => ("", "", "", false)
def tyJxa1e45 : Nat → FieldType := fun k => match k with
  | _ => .int
theorem nmJxa1e45 : ∀ a, a < 0 → ∀ b, b < 0 → a ≠ b → (TJxa1e45 a).2.1 ≠ (TJxa1e45 b).2.1 := by decide +kernel
theorem tyJxa1e45_ok : ∀ k, k < 0 → parseFieldDescriptor (TJxa1e45 k).2.2.1 = some (tyJxa1e45 k) := by decide +kernel
abbrev cJxa1e45_init_da8c8 : ByteArray := prog_23_method_1_code
def yJxa1e45_init_da8c8 : MethodName := ⟨RJxa1e45, "<init>", "()V"⟩
def RJxc12de : String := "java/util/AbstractList"
def TJxc12de : u_T := fun k => match k with
  | _ => ("", "", "", false)
def tyJxc12de : Nat → FieldType := fun k => match k with
  | _ => .int
theorem nmJxc12de : ∀ a, a < 0 → ∀ b, b < 0 → a ≠ b → (TJxc12de a).2.1 ≠ (TJxc12de b).2.1 := by decide +kernel
theorem tyJxc12de_ok : ∀ k, k < 0 → parseFieldDescriptor (TJxc12de k).2.2.1 = some (tyJxc12de k) := by decide +kernel
abbrev cJxc12de_init_da8c8 : ByteArray := prog_24_method_1_code
def yJxc12de_init_da8c8 : MethodName := ⟨RJxc12de, "<init>", "()V"⟩
def RJx4a65c : String := "java/util/ArrayList"
def TJx4a65c : u_T := fun k => match k with
  | 0 => ("java/util/AbstractList", "modCount", "I", false)
  | 1 => ("java/util/ArrayList", "elementData", "[Ljava/lang/Object;", false)
  | _ => ("java/util/ArrayList", "size", "I", false)
def tyJx4a65c : Nat → FieldType := fun k => match k with
  | 0 => .int
  | 1 => .array (.object "java/lang/Object")
  | _ => .int
theorem nmJx4a65c : ∀ a, a < 3 → ∀ b, b < 3 → a ≠ b → (TJx4a65c a).2.1 ≠ (TJx4a65c b).2.1 := by decide +kernel
theorem tyJx4a65c_ok : ∀ k, k < 3 → parseFieldDescriptor (TJx4a65c k).2.2.1 = some (tyJx4a65c k) := by decide +kernel
abbrev cJx4a65c_init_da8c8 : ByteArray := prog_25_method_2_code
def yJx4a65c_init_da8c8 : MethodName := ⟨RJx4a65c, "<init>", "()V"⟩
abbrev cJx4a65c_grow_92f84 : ByteArray := prog_25_method_6_code
def yJx4a65c_grow_92f84 : MethodName := ⟨RJx4a65c, "grow", "(I)[Ljava/lang/Object;"⟩
abbrev cJx4a65c_grow_d5877 : ByteArray := prog_25_method_7_code
def yJx4a65c_grow_d5877 : MethodName := ⟨RJx4a65c, "grow", "()[Ljava/lang/Object;"⟩
abbrev cJx4a65c_size_8abf5 : ByteArray := prog_25_method_8_code
def yJx4a65c_size_8abf5 : MethodName := ⟨RJx4a65c, "size", "()I"⟩
abbrev cJx4a65c_elementData_915e3 : ByteArray := prog_25_method_18_code
def yJx4a65c_elementData_915e3 : MethodName := ⟨RJx4a65c, "elementData", "(I)Ljava/lang/Object;"⟩
abbrev cJx4a65c_get_915e3 : ByteArray := prog_25_method_20_code
def yJx4a65c_get_915e3 : MethodName := ⟨RJx4a65c, "get", "(I)Ljava/lang/Object;"⟩
abbrev cJx4a65c_add_72be8 : ByteArray := prog_25_method_24_code
def yJx4a65c_add_72be8 : MethodName := ⟨RJx4a65c, "add", "(Ljava/lang/Object;[Ljava/lang/Object;I)V"⟩
abbrev cJx4a65c_add_9ea2d : ByteArray := prog_25_method_25_code
def yJx4a65c_add_9ea2d : MethodName := ⟨RJx4a65c, "add", "(Ljava/lang/Object;)Z"⟩
abbrev cJx4a65c_clear_da8c8 : ByteArray := prog_25_method_40_code
def yJx4a65c_clear_da8c8 : MethodName := ⟨RJx4a65c, "clear", "()V"⟩
def RJ7 : String := "java/util/Arrays"
def TJ7 : u_T := fun k => match k with
  | _ => ("", "", "", false)
def tyJ7 : Nat → FieldType := fun k => match k with
  | _ => .int
theorem nmJ7 : ∀ a, a < 0 → ∀ b, b < 0 → a ≠ b → (TJ7 a).2.1 ≠ (TJ7 b).2.1 := by decide +kernel
theorem tyJ7_ok : ∀ k, k < 0 → parseFieldDescriptor (TJ7 k).2.2.1 = some (tyJ7 k) := by decide +kernel
abbrev cJ7_copyOf_1904c : ByteArray := prog_26_method_119_code
def yJ7_copyOf_1904c : MethodName := ⟨RJ7, "copyOf", "([Ljava/lang/Object;I)[Ljava/lang/Object;"⟩
abbrev cJ7_copyOf_6403c : ByteArray := prog_26_method_120_code
def yJ7_copyOf_6403c : MethodName := ⟨RJ7, "copyOf", "([Ljava/lang/Object;ILjava/lang/Class;)[Ljava/lang/Object;"⟩
def RJx5ef63 : String := "java/util/Collection"
def TJx5ef63 : u_T := fun k => match k with
  | _ => ("", "", "", false)
def tyJx5ef63 : Nat → FieldType := fun k => match k with
  | _ => .int
theorem nmJx5ef63 : ∀ a, a < 0 → ∀ b, b < 0 → a ≠ b → (TJx5ef63 a).2.1 ≠ (TJx5ef63 b).2.1 := by decide +kernel
theorem tyJx5ef63_ok : ∀ k, k < 0 → parseFieldDescriptor (TJx5ef63 k).2.2.1 = some (tyJx5ef63 k) := by decide +kernel
def RJxbd725 : String := "java/util/List"
def TJxbd725 : u_T := fun k => match k with
  | _ => ("", "", "", false)
def tyJxbd725 : Nat → FieldType := fun k => match k with
  | _ => .int
theorem nmJxbd725 : ∀ a, a < 0 → ∀ b, b < 0 → a ≠ b → (TJxbd725 a).2.1 ≠ (TJxbd725 b).2.1 := by decide +kernel
theorem tyJxbd725_ok : ∀ k, k < 0 → parseFieldDescriptor (TJxbd725 k).2.2.1 = some (tyJxbd725 k) := by decide +kernel
def RJ15 : String := "java/util/Objects"
def TJ15 : u_T := fun k => match k with
  | _ => ("", "", "", false)
def tyJ15 : Nat → FieldType := fun k => match k with
  | _ => .int
theorem nmJ15 : ∀ a, a < 0 → ∀ b, b < 0 → a ≠ b → (TJ15 a).2.1 ≠ (TJ15 b).2.1 := by decide +kernel
theorem tyJ15_ok : ∀ k, k < 0 → parseFieldDescriptor (TJ15 k).2.2.1 = some (tyJ15 k) := by decide +kernel
abbrev cJ15_checkIndex_7cf53 : ByteArray := prog_29_method_17_code
def yJ15_checkIndex_7cf53 : MethodName := ⟨RJ15, "checkIndex", "(II)I"⟩
def RJxf0a74 : String := "java/util/RandomAccess"
def TJxf0a74 : u_T := fun k => match k with
  | _ => ("", "", "", false)
def tyJxf0a74 : Nat → FieldType := fun k => match k with
  | _ => .int
theorem nmJxf0a74 : ∀ a, a < 0 → ∀ b, b < 0 → a ≠ b → (TJxf0a74 a).2.1 ≠ (TJxf0a74 b).2.1 := by decide +kernel
theorem tyJxf0a74_ok : ∀ k, k < 0 → parseFieldDescriptor (TJxf0a74 k).2.2.1 = some (tyJxf0a74 k) := by decide +kernel
def RJxa66e6 : String := "java/util/SequencedCollection"
def TJxa66e6 : u_T := fun k => match k with
  | _ => ("", "", "", false)
def tyJxa66e6 : Nat → FieldType := fun k => match k with
  | _ => .int
theorem nmJxa66e6 : ∀ a, a < 0 → ∀ b, b < 0 → a ≠ b → (TJxa66e6 a).2.1 ≠ (TJxa66e6 b).2.1 := by decide +kernel
theorem tyJxa66e6_ok : ∀ k, k < 0 → parseFieldDescriptor (TJxa66e6 k).2.2.1 = some (tyJxa66e6 k) := by decide +kernel
def RJ8 : String := "jdk/internal/util/ArraysSupport"
def TJ8 : u_T := fun k => match k with
  | _ => ("", "", "", false)
def tyJ8 : Nat → FieldType := fun k => match k with
  | _ => .int
theorem nmJ8 : ∀ a, a < 0 → ∀ b, b < 0 → a ≠ b → (TJ8 a).2.1 ≠ (TJ8 b).2.1 := by decide +kernel
theorem tyJ8_ok : ∀ k, k < 0 → parseFieldDescriptor (TJ8 k).2.2.1 = some (tyJ8 k) := by decide +kernel
abbrev cJ8_newLength_cabcc : ByteArray := prog_32_method_27_code
def yJ8_newLength_cabcc : MethodName := ⟨RJ8, "newLength", "(III)I"⟩
abbrev cJ8_hugeLength_7cf53 : ByteArray := prog_32_method_28_code
def yJ8_hugeLength_7cf53 : MethodName := ⟨RJ8, "hugeLength", "(II)I"⟩
def RJ3 : String := "jdk/internal/util/Preconditions"
def TJ3 : u_T := fun k => match k with
  | _ => ("", "", "", false)
def tyJ3 : Nat → FieldType := fun k => match k with
  | _ => .int
theorem nmJ3 : ∀ a, a < 0 → ∀ b, b < 0 → a ≠ b → (TJ3 a).2.1 ≠ (TJ3 b).2.1 := by decide +kernel
theorem tyJ3_ok : ∀ k, k < 0 → parseFieldDescriptor (TJ3 k).2.2.1 = some (tyJ3 k) := by decide +kernel
abbrev cJ3_checkIndex_8e157 : ByteArray := prog_33_method_11_code
def yJ3_checkIndex_8e157 : MethodName := ⟨RJ3, "checkIndex", "(IILjava/util/function/BiFunction;)I"⟩
def RL : String := "FeedTowerLaw"
abbrev cL_told : ByteArray := method_2_code
def yL_told : MethodName := ⟨RL, "told", "([II)I"⟩
abbrev cL_note : ByteArray := method_3_code
def yL_note : MethodName := ⟨RL, "note", "(LFeedTower;I[I[I)V"⟩
abbrev cL_isPolled : ByteArray := method_4_code
def yL_isPolled : MethodName := ⟨RL, "isPolled", "(LFeedTower;I[I[I)Z"⟩
abbrev cL_draft : ByteArray := method_5_code
def yL_draft : MethodName := ⟨RL, "draft", "(LFeedTower;IJ)V"⟩
abbrev cL_cuts : ByteArray := method_6_code
def yL_cuts : MethodName := ⟨RL, "cuts", "(LFeedTower;II[I[I)Z"⟩
abbrev cL_goesOut : ByteArray := method_7_code
def yL_goesOut : MethodName := ⟨RL, "goesOut", "(LFeedTower;II[I[I)Z"⟩
abbrev cL_law : ByteArray := code
def yL_law : MethodName := ⟨RL, "law", "([I)Z"⟩
abbrev vwCl : List vw_C := [(RJx4a65c, TJx4a65c, 3), (RX0, TX0, 3), (RX3, TX3, 5), (RX4, TX4, 5), (RX7, TX7, 10)]
end
section
theorem dX7_init_0 : decode cX7_init 0 = .ok (.aload_n 0, 1) := by decide +kernel
theorem dX7_init_1 : decode cX7_init 1 = .ok (.invokespecial 1, 3) := by decide +kernel
theorem dX7_init_4 : decode cX7_init 4 = .ok (.aload_n 0, 1) := by decide +kernel
theorem dX7_init_5 : decode cX7_init 5 = .ok (.new 7, 3) := by decide +kernel
theorem dX7_init_8 : decode cX7_init 8 = .ok (.dup, 1) := by decide +kernel
theorem dX7_init_9 : decode cX7_init 9 = .ok (.invokespecial 9, 3) := by decide +kernel
theorem dX7_init_12 : decode cX7_init 12 = .ok (.putfield 10, 3) := by decide +kernel
theorem dX7_init_15 : decode cX7_init 15 = .ok (.aload_n 0, 1) := by decide +kernel
theorem dX7_init_16 : decode cX7_init 16 = .ok (.new 7, 3) := by decide +kernel
theorem dX7_init_19 : decode cX7_init 19 = .ok (.dup, 1) := by decide +kernel
theorem dX7_init_20 : decode cX7_init 20 = .ok (.invokespecial 9, 3) := by decide +kernel
theorem dX7_init_23 : decode cX7_init 23 = .ok (.putfield 16, 3) := by decide +kernel
theorem dX7_init_26 : decode cX7_init 26 = .ok (.aload_n 0, 1) := by decide +kernel
theorem dX7_init_27 : decode cX7_init 27 = .ok (.new 7, 3) := by decide +kernel
theorem dX7_init_30 : decode cX7_init 30 = .ok (.dup, 1) := by decide +kernel
theorem dX7_init_31 : decode cX7_init 31 = .ok (.invokespecial 9, 3) := by decide +kernel
theorem dX7_init_34 : decode cX7_init 34 = .ok (.putfield 19, 3) := by decide +kernel
theorem dX7_init_37 : decode cX7_init 37 = .ok (.aload_n 0, 1) := by decide +kernel
theorem dX7_init_38 : decode cX7_init 38 = .ok (.new 7, 3) := by decide +kernel
theorem dX7_init_41 : decode cX7_init 41 = .ok (.dup, 1) := by decide +kernel
theorem dX7_init_42 : decode cX7_init 42 = .ok (.invokespecial 9, 3) := by decide +kernel
theorem dX7_init_45 : decode cX7_init 45 = .ok (.putfield 22, 3) := by decide +kernel
theorem dX7_init_48 : decode cX7_init 48 = .ok (.aload_n 0, 1) := by decide +kernel
theorem dX7_init_49 : decode cX7_init 49 = .ok (.new 7, 3) := by decide +kernel
theorem dX7_init_52 : decode cX7_init 52 = .ok (.dup, 1) := by decide +kernel
theorem dX7_init_53 : decode cX7_init 53 = .ok (.invokespecial 9, 3) := by decide +kernel
theorem dX7_init_56 : decode cX7_init 56 = .ok (.putfield 25, 3) := by decide +kernel
theorem dX7_init_59 : decode cX7_init 59 = .ok (.aload_n 0, 1) := by decide +kernel
theorem dX7_init_60 : decode cX7_init 60 = .ok (.new 7, 3) := by decide +kernel
theorem dX7_init_63 : decode cX7_init 63 = .ok (.dup, 1) := by decide +kernel
theorem dX7_init_64 : decode cX7_init 64 = .ok (.invokespecial 9, 3) := by decide +kernel
theorem dX7_init_67 : decode cX7_init 67 = .ok (.putfield 28, 3) := by decide +kernel
theorem dX7_init_70 : decode cX7_init 70 = .ok (.aload_n 0, 1) := by decide +kernel
theorem dX7_init_71 : decode cX7_init 71 = .ok (.iconst 0, 1) := by decide +kernel
theorem dX7_init_72 : decode cX7_init 72 = .ok (.putfield 31, 3) := by decide +kernel
theorem dX7_init_75 : decode cX7_init 75 = .ok (.aload_n 0, 1) := by decide +kernel
theorem dX7_init_76 : decode cX7_init 76 = .ok (.iconst 0, 1) := by decide +kernel
theorem dX7_init_77 : decode cX7_init 77 = .ok (.putfield 35, 3) := by decide +kernel
theorem dX7_init_80 : decode cX7_init 80 = .ok (.aload_n 0, 1) := by decide +kernel
theorem dX7_init_81 : decode cX7_init 81 = .ok (.iconst 0, 1) := by decide +kernel
theorem dX7_init_82 : decode cX7_init 82 = .ok (.putfield 38, 3) := by decide +kernel
theorem dX7_init_85 : decode cX7_init 85 = .ok (.aload_n 0, 1) := by decide +kernel
theorem dX7_init_86 : decode cX7_init 86 = .ok (.iconst 0, 1) := by decide +kernel
theorem dX7_init_87 : decode cX7_init 87 = .ok (.putfield 41, 3) := by decide +kernel
theorem dX7_init_90 : decode cX7_init 90 = .ok (.return_, 1) := by decide +kernel
theorem dX7_talk_0 : decode cX7_talk 0 = .ok (.iload_n 1, 1) := by decide +kernel
theorem dX7_talk_1 : decode cX7_talk 1 = .ok (.iconst 1, 1) := by decide +kernel
theorem dX7_talk_2 : decode cX7_talk 2 = .ok (.sipush 999, 3) := by decide +kernel
theorem dX7_talk_5 : decode cX7_talk 5 = .ok (.invokestatic 44, 3) := by decide +kernel
theorem dX7_talk_8 : decode cX7_talk 8 = .ok (.ifCond .ne 13, 3) := by decide +kernel
theorem dX7_talk_11 : decode cX7_talk 11 = .ok (.new 48, 3) := by decide +kernel
theorem dX7_talk_14 : decode cX7_talk 14 = .ok (.dup, 1) := by decide +kernel
theorem dX7_talk_15 : decode cX7_talk 15 = .ok (.ldc 50, 2) := by decide +kernel
theorem dX7_talk_17 : decode cX7_talk 17 = .ok (.invokespecial 52, 3) := by decide +kernel
theorem dX7_talk_20 : decode cX7_talk 20 = .ok (.athrow, 1) := by decide +kernel
theorem dX7_talk_21 : decode cX7_talk 21 = .ok (.aload_n 0, 1) := by decide +kernel
theorem dX7_talk_22 : decode cX7_talk 22 = .ok (.new 55, 3) := by decide +kernel
theorem dX7_talk_25 : decode cX7_talk 25 = .ok (.dup, 1) := by decide +kernel
theorem dX7_talk_26 : decode cX7_talk 26 = .ok (.iconst 0, 1) := by decide +kernel
theorem dX7_talk_27 : decode cX7_talk 27 = .ok (.iload_n 1, 1) := by decide +kernel
theorem dX7_talk_28 : decode cX7_talk 28 = .ok (.iconst (-1), 1) := by decide +kernel
theorem dX7_talk_29 : decode cX7_talk 29 = .ok (.invokespecial 57, 3) := by decide +kernel
theorem dX7_talk_32 : decode cX7_talk 32 = .ok (.invokevirtual 60, 3) := by decide +kernel
theorem dX7_talk_35 : decode cX7_talk 35 = .ok (.ireturn, 1) := by decide +kernel
theorem dX7_music_0 : decode cX7_music 0 = .ok (.iload_n 1, 1) := by decide +kernel
theorem dX7_music_1 : decode cX7_music 1 = .ok (.invokestatic 64, 3) := by decide +kernel
theorem dX7_music_4 : decode cX7_music 4 = .ok (.iload_n 2, 1) := by decide +kernel
theorem dX7_music_5 : decode cX7_music 5 = .ok (.iconst 1, 1) := by decide +kernel
theorem dX7_music_6 : decode cX7_music 6 = .ok (.sipush 300, 3) := by decide +kernel
theorem dX7_music_9 : decode cX7_music 9 = .ok (.invokestatic 44, 3) := by decide +kernel
theorem dX7_music_12 : decode cX7_music 12 = .ok (.ifCond .ne 13, 3) := by decide +kernel
theorem dX7_music_15 : decode cX7_music 15 = .ok (.new 48, 3) := by decide +kernel
theorem dX7_music_18 : decode cX7_music 18 = .ok (.dup, 1) := by decide +kernel
theorem dX7_music_19 : decode cX7_music 19 = .ok (.ldc 50, 2) := by decide +kernel
theorem dX7_music_21 : decode cX7_music 21 = .ok (.invokespecial 52, 3) := by decide +kernel
theorem dX7_music_24 : decode cX7_music 24 = .ok (.athrow, 1) := by decide +kernel
theorem dX7_music_25 : decode cX7_music 25 = .ok (.aload_n 0, 1) := by decide +kernel
theorem dX7_music_26 : decode cX7_music 26 = .ok (.getfield 35, 3) := by decide +kernel
theorem dX7_music_29 : decode cX7_music 29 = .ok (.iload_n 1, 1) := by decide +kernel
theorem dX7_music_30 : decode cX7_music 30 = .ok (.invokestatic 68, 3) := by decide +kernel
theorem dX7_music_33 : decode cX7_music 33 = .ok (.ifCond .eq 13, 3) := by decide +kernel
theorem dX7_music_36 : decode cX7_music 36 = .ok (.new 72, 3) := by decide +kernel
theorem dX7_music_39 : decode cX7_music 39 = .ok (.dup, 1) := by decide +kernel
theorem dX7_music_40 : decode cX7_music 40 = .ok (.ldc 74, 2) := by decide +kernel
theorem dX7_music_42 : decode cX7_music 42 = .ok (.invokespecial 76, 3) := by decide +kernel
theorem dX7_music_45 : decode cX7_music 45 = .ok (.athrow, 1) := by decide +kernel
theorem dX7_music_46 : decode cX7_music 46 = .ok (.aload_n 0, 1) := by decide +kernel
theorem dX7_music_47 : decode cX7_music 47 = .ok (.new 55, 3) := by decide +kernel
theorem dX7_music_50 : decode cX7_music 50 = .ok (.dup, 1) := by decide +kernel
theorem dX7_music_51 : decode cX7_music 51 = .ok (.iconst 1, 1) := by decide +kernel
theorem dX7_music_52 : decode cX7_music 52 = .ok (.iload_n 2, 1) := by decide +kernel
theorem dX7_music_53 : decode cX7_music 53 = .ok (.iload_n 1, 1) := by decide +kernel
theorem dX7_music_54 : decode cX7_music 54 = .ok (.invokespecial 57, 3) := by decide +kernel
theorem dX7_music_57 : decode cX7_music 57 = .ok (.invokevirtual 60, 3) := by decide +kernel
theorem dX7_music_60 : decode cX7_music 60 = .ok (.ireturn, 1) := by decide +kernel
theorem dX7_slot_0 : decode cX7_slot 0 = .ok (.iload_n 1, 1) := by decide +kernel
theorem dX7_slot_1 : decode cX7_slot 1 = .ok (.iconst 0, 1) := by decide +kernel
theorem dX7_slot_2 : decode cX7_slot 2 = .ok (.iconst 2, 1) := by decide +kernel
theorem dX7_slot_3 : decode cX7_slot 3 = .ok (.invokestatic 44, 3) := by decide +kernel
theorem dX7_slot_6 : decode cX7_slot 6 = .ok (.ifCond .ne 13, 3) := by decide +kernel
theorem dX7_slot_9 : decode cX7_slot 9 = .ok (.new 48, 3) := by decide +kernel
theorem dX7_slot_12 : decode cX7_slot 12 = .ok (.dup, 1) := by decide +kernel
theorem dX7_slot_13 : decode cX7_slot 13 = .ok (.ldc 77, 2) := by decide +kernel
theorem dX7_slot_15 : decode cX7_slot 15 = .ok (.invokespecial 52, 3) := by decide +kernel
theorem dX7_slot_18 : decode cX7_slot 18 = .ok (.athrow, 1) := by decide +kernel
theorem dX7_slot_19 : decode cX7_slot 19 = .ok (.aload_n 0, 1) := by decide +kernel
theorem dX7_slot_20 : decode cX7_slot 20 = .ok (.new 55, 3) := by decide +kernel
theorem dX7_slot_23 : decode cX7_slot 23 = .ok (.dup, 1) := by decide +kernel
theorem dX7_slot_24 : decode cX7_slot 24 = .ok (.iconst 2, 1) := by decide +kernel
theorem dX7_slot_25 : decode cX7_slot 25 = .ok (.iconst 0, 1) := by decide +kernel
theorem dX7_slot_26 : decode cX7_slot 26 = .ok (.iload_n 1, 1) := by decide +kernel
theorem dX7_slot_27 : decode cX7_slot 27 = .ok (.invokespecial 57, 3) := by decide +kernel
theorem dX7_slot_30 : decode cX7_slot 30 = .ok (.invokevirtual 60, 3) := by decide +kernel
theorem dX7_slot_33 : decode cX7_slot 33 = .ok (.ireturn, 1) := by decide +kernel
theorem dX7_item_0 : decode cX7_item 0 = .ok (.iload_n 1, 1) := by decide +kernel
theorem dX7_item_1 : decode cX7_item 1 = .ok (.invokestatic 79, 3) := by decide +kernel
theorem dX7_item_4 : decode cX7_item 4 = .ok (.iload_n 2, 1) := by decide +kernel
theorem dX7_item_5 : decode cX7_item 5 = .ok (.aload_n 0, 1) := by decide +kernel
theorem dX7_item_6 : decode cX7_item 6 = .ok (.getfield 31, 3) := by decide +kernel
theorem dX7_item_9 : decode cX7_item 9 = .ok (.sipush 9999, 3) := by decide +kernel
theorem dX7_item_12 : decode cX7_item 12 = .ok (.invokestatic 44, 3) := by decide +kernel
theorem dX7_item_15 : decode cX7_item 15 = .ok (.ifCond .ne 13, 3) := by decide +kernel
theorem dX7_item_18 : decode cX7_item 18 = .ok (.new 48, 3) := by decide +kernel
theorem dX7_item_21 : decode cX7_item 21 = .ok (.dup, 1) := by decide +kernel
theorem dX7_item_22 : decode cX7_item 22 = .ok (.ldc 82, 2) := by decide +kernel
theorem dX7_item_24 : decode cX7_item 24 = .ok (.invokespecial 52, 3) := by decide +kernel
theorem dX7_item_27 : decode cX7_item 27 = .ok (.athrow, 1) := by decide +kernel
theorem dX7_item_28 : decode cX7_item 28 = .ok (.aload_n 0, 1) := by decide +kernel
theorem dX7_item_29 : decode cX7_item 29 = .ok (.invokevirtual 84, 3) := by decide +kernel
theorem dX7_item_32 : decode cX7_item 32 = .ok (.ifCond .eq 15, 3) := by decide +kernel
theorem dX7_item_35 : decode cX7_item 35 = .ok (.aload_n 0, 1) := by decide +kernel
theorem dX7_item_36 : decode cX7_item 36 = .ok (.getfield 10, 3) := by decide +kernel
theorem dX7_item_39 : decode cX7_item 39 = .ok (.invokevirtual 88, 3) := by decide +kernel
theorem dX7_item_42 : decode cX7_item 42 = .ok (.bipush 24, 2) := by decide +kernel
theorem dX7_item_44 : decode cX7_item 44 = .ok (.if_icmp .lt 13, 3) := by decide +kernel
theorem dX7_item_47 : decode cX7_item 47 = .ok (.new 72, 3) := by decide +kernel
theorem dX7_item_50 : decode cX7_item 50 = .ok (.dup, 1) := by decide +kernel
theorem dX7_item_51 : decode cX7_item 51 = .ok (.ldc 92, 2) := by decide +kernel
theorem dX7_item_53 : decode cX7_item 53 = .ok (.invokespecial 76, 3) := by decide +kernel
theorem dX7_item_56 : decode cX7_item 56 = .ok (.athrow, 1) := by decide +kernel
theorem dX7_item_57 : decode cX7_item 57 = .ok (.new 94, 3) := by decide +kernel
theorem dX7_item_60 : decode cX7_item 60 = .ok (.dup, 1) := by decide +kernel
theorem dX7_item_61 : decode cX7_item 61 = .ok (.aload_n 0, 1) := by decide +kernel
theorem dX7_item_62 : decode cX7_item 62 = .ok (.getfield 10, 3) := by decide +kernel
theorem dX7_item_65 : decode cX7_item 65 = .ok (.invokevirtual 88, 3) := by decide +kernel
theorem dX7_item_68 : decode cX7_item 68 = .ok (.iload_n 1, 1) := by decide +kernel
theorem dX7_item_69 : decode cX7_item 69 = .ok (.iload_n 2, 1) := by decide +kernel
theorem dX7_item_70 : decode cX7_item 70 = .ok (.aload_n 0, 1) := by decide +kernel
theorem dX7_item_71 : decode cX7_item 71 = .ok (.getfield 28, 3) := by decide +kernel
theorem dX7_item_74 : decode cX7_item 74 = .ok (.invokespecial 96, 3) := by decide +kernel
theorem dX7_item_77 : decode cX7_item 77 = .ok (.astore_n 3, 1) := by decide +kernel
theorem dX7_item_78 : decode cX7_item 78 = .ok (.aload_n 0, 1) := by decide +kernel
theorem dX7_item_79 : decode cX7_item 79 = .ok (.new 7, 3) := by decide +kernel
theorem dX7_item_82 : decode cX7_item 82 = .ok (.dup, 1) := by decide +kernel
theorem dX7_item_83 : decode cX7_item 83 = .ok (.invokespecial 9, 3) := by decide +kernel
theorem dX7_item_86 : decode cX7_item 86 = .ok (.putfield 28, 3) := by decide +kernel
theorem dX7_item_89 : decode cX7_item 89 = .ok (.aload_n 0, 1) := by decide +kernel
theorem dX7_item_90 : decode cX7_item 90 = .ok (.getfield 10, 3) := by decide +kernel
theorem dX7_item_93 : decode cX7_item 93 = .ok (.aload_n 3, 1) := by decide +kernel
theorem dX7_item_94 : decode cX7_item 94 = .ok (.invokevirtual 99, 3) := by decide +kernel
theorem dX7_item_97 : decode cX7_item 97 = .ok (.pop, 1) := by decide +kernel
theorem dX7_item_98 : decode cX7_item 98 = .ok (.aload_n 0, 1) := by decide +kernel
theorem dX7_item_99 : decode cX7_item 99 = .ok (.aload_n 3, 1) := by decide +kernel
theorem dX7_item_100 : decode cX7_item 100 = .ok (.invokevirtual 103, 3) := by decide +kernel
theorem dX7_item_103 : decode cX7_item 103 = .ok (.pop, 1) := by decide +kernel
theorem dX7_item_104 : decode cX7_item 104 = .ok (.aload_n 0, 1) := by decide +kernel
theorem dX7_item_105 : decode cX7_item 105 = .ok (.aload_n 3, 1) := by decide +kernel
theorem dX7_item_106 : decode cX7_item 106 = .ok (.invokevirtual 107, 3) := by decide +kernel
theorem dX7_item_109 : decode cX7_item 109 = .ok (.aload_n 3, 1) := by decide +kernel
theorem dX7_item_110 : decode cX7_item 110 = .ok (.getfield 111, 3) := by decide +kernel
theorem dX7_item_113 : decode cX7_item 113 = .ok (.ireturn, 1) := by decide +kernel
theorem dX7_cut_0 : decode cX7_cut 0 = .ok (.aload_n 0, 1) := by decide +kernel
theorem dX7_cut_1 : decode cX7_cut 1 = .ok (.iload_n 1, 1) := by decide +kernel
theorem dX7_cut_2 : decode cX7_cut 2 = .ok (.invokevirtual 114, 3) := by decide +kernel
theorem dX7_cut_5 : decode cX7_cut 5 = .ok (.astore_n 3, 1) := by decide +kernel
theorem dX7_cut_6 : decode cX7_cut 6 = .ok (.aload_n 3, 1) := by decide +kernel
theorem dX7_cut_7 : decode cX7_cut 7 = .ok (.iload_n 2, 1) := by decide +kernel
theorem dX7_cut_8 : decode cX7_cut 8 = .ok (.invokevirtual 118, 3) := by decide +kernel
theorem dX7_cut_11 : decode cX7_cut 11 = .ok (.astore 4, 2) := by decide +kernel
theorem dX7_cut_13 : decode cX7_cut 13 = .ok (.aload_n 3, 1) := by decide +kernel
theorem dX7_cut_14 : decode cX7_cut 14 = .ok (.invokevirtual 122, 3) := by decide +kernel
theorem dX7_cut_17 : decode cX7_cut 17 = .ok (.iconst 1, 1) := by decide +kernel
theorem dX7_cut_18 : decode cX7_cut 18 = .ok (.isub, 1) := by decide +kernel
theorem dX7_cut_19 : decode cX7_cut 19 = .ok (.istore 5, 2) := by decide +kernel
theorem dX7_cut_21 : decode cX7_cut 21 = .ok (.aload 4, 2) := by decide +kernel
theorem dX7_cut_23 : decode cX7_cut 23 = .ok (.getfield 125, 3) := by decide +kernel
theorem dX7_cut_26 : decode cX7_cut 26 = .ok (.ifCond .ne 16, 3) := by decide +kernel
theorem dX7_cut_29 : decode cX7_cut 29 = .ok (.aload_n 3, 1) := by decide +kernel
theorem dX7_cut_30 : decode cX7_cut 30 = .ok (.getfield 129, 3) := by decide +kernel
theorem dX7_cut_33 : decode cX7_cut 33 = .ok (.ifCond .ne 9, 3) := by decide +kernel
theorem dX7_cut_36 : decode cX7_cut 36 = .ok (.iload 5, 2) := by decide +kernel
theorem dX7_cut_38 : decode cX7_cut 38 = .ok (.iconst 1, 1) := by decide +kernel
theorem dX7_cut_39 : decode cX7_cut 39 = .ok (.if_icmp .ge 13, 3) := by decide +kernel
theorem dX7_cut_42 : decode cX7_cut 42 = .ok (.new 72, 3) := by decide +kernel
theorem dX7_cut_45 : decode cX7_cut 45 = .ok (.dup, 1) := by decide +kernel
theorem dX7_cut_46 : decode cX7_cut 46 = .ok (.ldc 132, 2) := by decide +kernel
theorem dX7_cut_48 : decode cX7_cut 48 = .ok (.invokespecial 76, 3) := by decide +kernel
theorem dX7_cut_51 : decode cX7_cut 51 = .ok (.athrow, 1) := by decide +kernel
theorem dX7_cut_52 : decode cX7_cut 52 = .ok (.aload 4, 2) := by decide +kernel
theorem dX7_cut_54 : decode cX7_cut 54 = .ok (.iconst 1, 1) := by decide +kernel
theorem dX7_cut_55 : decode cX7_cut 55 = .ok (.putfield 125, 3) := by decide +kernel
theorem dX7_cut_58 : decode cX7_cut 58 = .ok (.aload_n 0, 1) := by decide +kernel
theorem dX7_cut_59 : decode cX7_cut 59 = .ok (.aload_n 3, 1) := by decide +kernel
theorem dX7_cut_60 : decode cX7_cut 60 = .ok (.invokevirtual 107, 3) := by decide +kernel
theorem dX7_cut_63 : decode cX7_cut 63 = .ok (.iload 5, 2) := by decide +kernel
theorem dX7_cut_65 : decode cX7_cut 65 = .ok (.ireturn, 1) := by decide +kernel
theorem dX7_withdraw_0 : decode cX7_withdraw 0 = .ok (.aload_n 0, 1) := by decide +kernel
theorem dX7_withdraw_1 : decode cX7_withdraw 1 = .ok (.iload_n 1, 1) := by decide +kernel
theorem dX7_withdraw_2 : decode cX7_withdraw 2 = .ok (.invokevirtual 114, 3) := by decide +kernel
theorem dX7_withdraw_5 : decode cX7_withdraw 5 = .ok (.astore_n 2, 1) := by decide +kernel
theorem dX7_withdraw_6 : decode cX7_withdraw 6 = .ok (.aload_n 2, 1) := by decide +kernel
theorem dX7_withdraw_7 : decode cX7_withdraw 7 = .ok (.getfield 129, 3) := by decide +kernel
theorem dX7_withdraw_10 : decode cX7_withdraw 10 = .ok (.ifCond .eq 13, 3) := by decide +kernel
theorem dX7_withdraw_13 : decode cX7_withdraw 13 = .ok (.new 72, 3) := by decide +kernel
theorem dX7_withdraw_16 : decode cX7_withdraw 16 = .ok (.dup, 1) := by decide +kernel
theorem dX7_withdraw_17 : decode cX7_withdraw 17 = .ok (.ldc 134, 2) := by decide +kernel
theorem dX7_withdraw_19 : decode cX7_withdraw 19 = .ok (.invokespecial 76, 3) := by decide +kernel
theorem dX7_withdraw_22 : decode cX7_withdraw 22 = .ok (.athrow, 1) := by decide +kernel
theorem dX7_withdraw_23 : decode cX7_withdraw 23 = .ok (.aload_n 2, 1) := by decide +kernel
theorem dX7_withdraw_24 : decode cX7_withdraw 24 = .ok (.iconst 1, 1) := by decide +kernel
theorem dX7_withdraw_25 : decode cX7_withdraw 25 = .ok (.putfield 129, 3) := by decide +kernel
theorem dX7_withdraw_28 : decode cX7_withdraw 28 = .ok (.aload_n 0, 1) := by decide +kernel
theorem dX7_withdraw_29 : decode cX7_withdraw 29 = .ok (.aload_n 2, 1) := by decide +kernel
theorem dX7_withdraw_30 : decode cX7_withdraw 30 = .ok (.invokevirtual 107, 3) := by decide +kernel
theorem dX7_withdraw_33 : decode cX7_withdraw 33 = .ok (.return_, 1) := by decide +kernel
theorem dX7_songOut_0 : decode cX7_songOut 0 = .ok (.iload_n 1, 1) := by decide +kernel
theorem dX7_songOut_1 : decode cX7_songOut 1 = .ok (.invokestatic 64, 3) := by decide +kernel
theorem dX7_songOut_4 : decode cX7_songOut 4 = .ok (.aload_n 0, 1) := by decide +kernel
theorem dX7_songOut_5 : decode cX7_songOut 5 = .ok (.getfield 35, 3) := by decide +kernel
theorem dX7_songOut_8 : decode cX7_songOut 8 = .ok (.iload_n 1, 1) := by decide +kernel
theorem dX7_songOut_9 : decode cX7_songOut 9 = .ok (.invokestatic 68, 3) := by decide +kernel
theorem dX7_songOut_12 : decode cX7_songOut 12 = .ok (.ifCond .eq 13, 3) := by decide +kernel
theorem dX7_songOut_15 : decode cX7_songOut 15 = .ok (.new 72, 3) := by decide +kernel
theorem dX7_songOut_18 : decode cX7_songOut 18 = .ok (.dup, 1) := by decide +kernel
theorem dX7_songOut_19 : decode cX7_songOut 19 = .ok (.ldc 74, 2) := by decide +kernel
theorem dX7_songOut_21 : decode cX7_songOut 21 = .ok (.invokespecial 76, 3) := by decide +kernel
theorem dX7_songOut_24 : decode cX7_songOut 24 = .ok (.athrow, 1) := by decide +kernel
theorem dX7_songOut_25 : decode cX7_songOut 25 = .ok (.aload_n 0, 1) := by decide +kernel
theorem dX7_songOut_26 : decode cX7_songOut 26 = .ok (.aload_n 0, 1) := by decide +kernel
theorem dX7_songOut_27 : decode cX7_songOut 27 = .ok (.getfield 35, 3) := by decide +kernel
theorem dX7_songOut_30 : decode cX7_songOut 30 = .ok (.iload_n 1, 1) := by decide +kernel
theorem dX7_songOut_31 : decode cX7_songOut 31 = .ok (.invokestatic 136, 3) := by decide +kernel
theorem dX7_songOut_34 : decode cX7_songOut 34 = .ok (.putfield 35, 3) := by decide +kernel
theorem dX7_songOut_37 : decode cX7_songOut 37 = .ok (.iconst 0, 1) := by decide +kernel
theorem dX7_songOut_38 : decode cX7_songOut 38 = .ok (.istore_n 2, 1) := by decide +kernel
theorem dX7_songOut_39 : decode cX7_songOut 39 = .ok (.iconst 0, 1) := by decide +kernel
theorem dX7_songOut_40 : decode cX7_songOut 40 = .ok (.istore_n 3, 1) := by decide +kernel
theorem dX7_songOut_41 : decode cX7_songOut 41 = .ok (.iload_n 3, 1) := by decide +kernel
theorem dX7_songOut_42 : decode cX7_songOut 42 = .ok (.aload_n 0, 1) := by decide +kernel
theorem dX7_songOut_43 : decode cX7_songOut 43 = .ok (.getfield 10, 3) := by decide +kernel
theorem dX7_songOut_46 : decode cX7_songOut 46 = .ok (.invokevirtual 88, 3) := by decide +kernel
theorem dX7_songOut_49 : decode cX7_songOut 49 = .ok (.if_icmp .ge 46, 3) := by decide +kernel
theorem dX7_songOut_52 : decode cX7_songOut 52 = .ok (.aload_n 0, 1) := by decide +kernel
theorem dX7_songOut_53 : decode cX7_songOut 53 = .ok (.getfield 10, 3) := by decide +kernel
theorem dX7_songOut_56 : decode cX7_songOut 56 = .ok (.iload_n 3, 1) := by decide +kernel
theorem dX7_songOut_57 : decode cX7_songOut 57 = .ok (.invokevirtual 140, 3) := by decide +kernel
theorem dX7_songOut_60 : decode cX7_songOut 60 = .ok (.checkcast 94, 3) := by decide +kernel
theorem dX7_songOut_63 : decode cX7_songOut 63 = .ok (.astore 4, 2) := by decide +kernel
theorem dX7_songOut_65 : decode cX7_songOut 65 = .ok (.aload_n 0, 1) := by decide +kernel
theorem dX7_songOut_66 : decode cX7_songOut 66 = .ok (.aload 4, 2) := by decide +kernel
theorem dX7_songOut_68 : decode cX7_songOut 68 = .ok (.invokevirtual 103, 3) := by decide +kernel
theorem dX7_songOut_71 : decode cX7_songOut 71 = .ok (.istore 5, 2) := by decide +kernel
theorem dX7_songOut_73 : decode cX7_songOut 73 = .ok (.iload 5, 2) := by decide +kernel
theorem dX7_songOut_75 : decode cX7_songOut 75 = .ok (.ifCond .le 9, 3) := by decide +kernel
theorem dX7_songOut_78 : decode cX7_songOut 78 = .ok (.aload_n 0, 1) := by decide +kernel
theorem dX7_songOut_79 : decode cX7_songOut 79 = .ok (.aload 4, 2) := by decide +kernel
theorem dX7_songOut_81 : decode cX7_songOut 81 = .ok (.invokevirtual 107, 3) := by decide +kernel
theorem dX7_songOut_84 : decode cX7_songOut 84 = .ok (.iload_n 2, 1) := by decide +kernel
theorem dX7_songOut_85 : decode cX7_songOut 85 = .ok (.iload 5, 2) := by decide +kernel
theorem dX7_songOut_87 : decode cX7_songOut 87 = .ok (.iadd, 1) := by decide +kernel
theorem dX7_songOut_88 : decode cX7_songOut 88 = .ok (.istore_n 2, 1) := by decide +kernel
theorem dX7_songOut_89 : decode cX7_songOut 89 = .ok (.iinc 3 1, 3) := by decide +kernel
theorem dX7_songOut_92 : decode cX7_songOut 92 = .ok (.goto (-51), 3) := by decide +kernel
theorem dX7_songOut_95 : decode cX7_songOut 95 = .ok (.iload_n 2, 1) := by decide +kernel
theorem dX7_songOut_96 : decode cX7_songOut 96 = .ok (.ireturn, 1) := by decide +kernel
theorem dX7_pass_0 : decode cX7_pass 0 = .ok (.iload_n 1, 1) := by decide +kernel
theorem dX7_pass_1 : decode cX7_pass 1 = .ok (.iconst 1, 1) := by decide +kernel
theorem dX7_pass_2 : decode cX7_pass 2 = .ok (.sipush 999, 3) := by decide +kernel
theorem dX7_pass_5 : decode cX7_pass 5 = .ok (.invokestatic 44, 3) := by decide +kernel
theorem dX7_pass_8 : decode cX7_pass 8 = .ok (.ifCond .ne 13, 3) := by decide +kernel
theorem dX7_pass_11 : decode cX7_pass 11 = .ok (.new 48, 3) := by decide +kernel
theorem dX7_pass_14 : decode cX7_pass 14 = .ok (.dup, 1) := by decide +kernel
theorem dX7_pass_15 : decode cX7_pass 15 = .ok (.ldc 144, 2) := by decide +kernel
theorem dX7_pass_17 : decode cX7_pass 17 = .ok (.invokespecial 52, 3) := by decide +kernel
theorem dX7_pass_20 : decode cX7_pass 20 = .ok (.athrow, 1) := by decide +kernel
theorem dX7_pass_21 : decode cX7_pass 21 = .ok (.aload_n 0, 1) := by decide +kernel
theorem dX7_pass_22 : decode cX7_pass 22 = .ok (.getfield 31, 3) := by decide +kernel
theorem dX7_pass_25 : decode cX7_pass 25 = .ok (.iload_n 1, 1) := by decide +kernel
theorem dX7_pass_26 : decode cX7_pass 26 = .ok (.iadd, 1) := by decide +kernel
theorem dX7_pass_27 : decode cX7_pass 27 = .ok (.sipush 9999, 3) := by decide +kernel
theorem dX7_pass_30 : decode cX7_pass 30 = .ok (.if_icmp .le 13, 3) := by decide +kernel
theorem dX7_pass_33 : decode cX7_pass 33 = .ok (.new 72, 3) := by decide +kernel
theorem dX7_pass_36 : decode cX7_pass 36 = .ok (.dup, 1) := by decide +kernel
theorem dX7_pass_37 : decode cX7_pass 37 = .ok (.ldc 146, 2) := by decide +kernel
theorem dX7_pass_39 : decode cX7_pass 39 = .ok (.invokespecial 76, 3) := by decide +kernel
theorem dX7_pass_42 : decode cX7_pass 42 = .ok (.athrow, 1) := by decide +kernel
theorem dX7_pass_43 : decode cX7_pass 43 = .ok (.iconst 0, 1) := by decide +kernel
theorem dX7_pass_44 : decode cX7_pass 44 = .ok (.istore_n 2, 1) := by decide +kernel
theorem dX7_pass_45 : decode cX7_pass 45 = .ok (.iload_n 2, 1) := by decide +kernel
theorem dX7_pass_46 : decode cX7_pass 46 = .ok (.iload_n 1, 1) := by decide +kernel
theorem dX7_pass_47 : decode cX7_pass 47 = .ok (.if_icmp .ge 23, 3) := by decide +kernel
theorem dX7_pass_50 : decode cX7_pass 50 = .ok (.aload_n 0, 1) := by decide +kernel
theorem dX7_pass_51 : decode cX7_pass 51 = .ok (.dup, 1) := by decide +kernel
theorem dX7_pass_52 : decode cX7_pass 52 = .ok (.getfield 31, 3) := by decide +kernel
theorem dX7_pass_55 : decode cX7_pass 55 = .ok (.iconst 1, 1) := by decide +kernel
theorem dX7_pass_56 : decode cX7_pass 56 = .ok (.iadd, 1) := by decide +kernel
theorem dX7_pass_57 : decode cX7_pass 57 = .ok (.putfield 31, 3) := by decide +kernel
theorem dX7_pass_60 : decode cX7_pass 60 = .ok (.aload_n 0, 1) := by decide +kernel
theorem dX7_pass_61 : decode cX7_pass 61 = .ok (.invokevirtual 148, 3) := by decide +kernel
theorem dX7_pass_64 : decode cX7_pass 64 = .ok (.iinc 2 1, 3) := by decide +kernel
theorem dX7_pass_67 : decode cX7_pass 67 = .ok (.goto (-22), 3) := by decide +kernel
theorem dX7_pass_70 : decode cX7_pass 70 = .ok (.aload_n 0, 1) := by decide +kernel
theorem dX7_pass_71 : decode cX7_pass 71 = .ok (.getfield 31, 3) := by decide +kernel
theorem dX7_pass_74 : decode cX7_pass 74 = .ok (.ireturn, 1) := by decide +kernel
theorem dX7_app_0 : decode cX7_app 0 = .ok (.iload_n 1, 1) := by decide +kernel
theorem dX7_app_1 : decode cX7_app 1 = .ok (.invokestatic 79, 3) := by decide +kernel
theorem dX7_app_4 : decode cX7_app 4 = .ok (.aload_n 0, 1) := by decide +kernel
theorem dX7_app_5 : decode cX7_app 5 = .ok (.getfield 19, 3) := by decide +kernel
theorem dX7_app_8 : decode cX7_app 8 = .ok (.invokevirtual 88, 3) := by decide +kernel
theorem dX7_app_11 : decode cX7_app 11 = .ok (.bipush 6, 2) := by decide +kernel
theorem dX7_app_13 : decode cX7_app 13 = .ok (.if_icmp .lt 13, 3) := by decide +kernel
theorem dX7_app_16 : decode cX7_app 16 = .ok (.new 72, 3) := by decide +kernel
theorem dX7_app_19 : decode cX7_app 19 = .ok (.dup, 1) := by decide +kernel
theorem dX7_app_20 : decode cX7_app 20 = .ok (.ldc 151, 2) := by decide +kernel
theorem dX7_app_22 : decode cX7_app 22 = .ok (.invokespecial 76, 3) := by decide +kernel
theorem dX7_app_25 : decode cX7_app 25 = .ok (.athrow, 1) := by decide +kernel
theorem dX7_app_26 : decode cX7_app 26 = .ok (.aload_n 0, 1) := by decide +kernel
theorem dX7_app_27 : decode cX7_app 27 = .ok (.getfield 19, 3) := by decide +kernel
theorem dX7_app_30 : decode cX7_app 30 = .ok (.new 153, 3) := by decide +kernel
theorem dX7_app_33 : decode cX7_app 33 = .ok (.dup, 1) := by decide +kernel
theorem dX7_app_34 : decode cX7_app 34 = .ok (.iload_n 1, 1) := by decide +kernel
theorem dX7_app_35 : decode cX7_app 35 = .ok (.invokespecial 155, 3) := by decide +kernel
theorem dX7_app_38 : decode cX7_app 38 = .ok (.invokevirtual 99, 3) := by decide +kernel
theorem dX7_app_41 : decode cX7_app 41 = .ok (.pop, 1) := by decide +kernel
theorem dX7_app_42 : decode cX7_app 42 = .ok (.aload_n 0, 1) := by decide +kernel
theorem dX7_app_43 : decode cX7_app 43 = .ok (.getfield 19, 3) := by decide +kernel
theorem dX7_app_46 : decode cX7_app 46 = .ok (.invokevirtual 88, 3) := by decide +kernel
theorem dX7_app_49 : decode cX7_app 49 = .ok (.iconst 1, 1) := by decide +kernel
theorem dX7_app_50 : decode cX7_app 50 = .ok (.isub, 1) := by decide +kernel
theorem dX7_app_51 : decode cX7_app 51 = .ok (.ireturn, 1) := by decide +kernel
theorem dX7_poll_0 : decode cX7_poll 0 = .ok (.aload_n 0, 1) := by decide +kernel
theorem dX7_poll_1 : decode cX7_poll 1 = .ok (.iload_n 1, 1) := by decide +kernel
theorem dX7_poll_2 : decode cX7_poll 2 = .ok (.invokevirtual 157, 3) := by decide +kernel
theorem dX7_poll_5 : decode cX7_poll 5 = .ok (.astore_n 2, 1) := by decide +kernel
theorem dX7_poll_6 : decode cX7_poll 6 = .ok (.aload_n 2, 1) := by decide +kernel
theorem dX7_poll_7 : decode cX7_poll 7 = .ok (.getfield 161, 3) := by decide +kernel
theorem dX7_poll_10 : decode cX7_poll 10 = .ok (.invokevirtual 164, 3) := by decide +kernel
theorem dX7_poll_13 : decode cX7_poll 13 = .ok (.iconst 0, 1) := by decide +kernel
theorem dX7_poll_14 : decode cX7_poll 14 = .ok (.istore_n 3, 1) := by decide +kernel
theorem dX7_poll_15 : decode cX7_poll 15 = .ok (.iconst 0, 1) := by decide +kernel
theorem dX7_poll_16 : decode cX7_poll 16 = .ok (.aload_n 2, 1) := by decide +kernel
theorem dX7_poll_17 : decode cX7_poll 17 = .ok (.getfield 167, 3) := by decide +kernel
theorem dX7_poll_20 : decode cX7_poll 20 = .ok (.invokestatic 170, 3) := by decide +kernel
theorem dX7_poll_23 : decode cX7_poll 23 = .ok (.istore 4, 2) := by decide +kernel
theorem dX7_poll_25 : decode cX7_poll 25 = .ok (.iload 4, 2) := by decide +kernel
theorem dX7_poll_27 : decode cX7_poll 27 = .ok (.aload_n 0, 1) := by decide +kernel
theorem dX7_poll_28 : decode cX7_poll 28 = .ok (.getfield 16, 3) := by decide +kernel
theorem dX7_poll_31 : decode cX7_poll 31 = .ok (.invokevirtual 88, 3) := by decide +kernel
theorem dX7_poll_34 : decode cX7_poll 34 = .ok (.if_icmp .ge 67, 3) := by decide +kernel
theorem dX7_poll_37 : decode cX7_poll 37 = .ok (.aload_n 0, 1) := by decide +kernel
theorem dX7_poll_38 : decode cX7_poll 38 = .ok (.getfield 16, 3) := by decide +kernel
theorem dX7_poll_41 : decode cX7_poll 41 = .ok (.iload 4, 2) := by decide +kernel
theorem dX7_poll_43 : decode cX7_poll 43 = .ok (.invokevirtual 140, 3) := by decide +kernel
theorem dX7_poll_46 : decode cX7_poll 46 = .ok (.checkcast 94, 3) := by decide +kernel
theorem dX7_poll_49 : decode cX7_poll 49 = .ok (.astore 5, 2) := by decide +kernel
theorem dX7_poll_51 : decode cX7_poll 51 = .ok (.aload 5, 2) := by decide +kernel
theorem dX7_poll_53 : decode cX7_poll 53 = .ok (.getfield 175, 3) := by decide +kernel
theorem dX7_poll_56 : decode cX7_poll 56 = .ok (.aload_n 2, 1) := by decide +kernel
theorem dX7_poll_57 : decode cX7_poll 57 = .ok (.getfield 178, 3) := by decide +kernel
theorem dX7_poll_60 : decode cX7_poll 60 = .ok (.if_icmp .ne 35, 3) := by decide +kernel
theorem dX7_poll_63 : decode cX7_poll 63 = .ok (.iload_n 3, 1) := by decide +kernel
theorem dX7_poll_64 : decode cX7_poll 64 = .ok (.aload 5, 2) := by decide +kernel
theorem dX7_poll_66 : decode cX7_poll 66 = .ok (.getfield 111, 3) := by decide +kernel
theorem dX7_poll_69 : decode cX7_poll 69 = .ok (.invokestatic 68, 3) := by decide +kernel
theorem dX7_poll_72 : decode cX7_poll 72 = .ok (.ifCond .ne 23, 3) := by decide +kernel
theorem dX7_poll_75 : decode cX7_poll 75 = .ok (.iload_n 3, 1) := by decide +kernel
theorem dX7_poll_76 : decode cX7_poll 76 = .ok (.aload 5, 2) := by decide +kernel
theorem dX7_poll_78 : decode cX7_poll 78 = .ok (.getfield 111, 3) := by decide +kernel
theorem dX7_poll_81 : decode cX7_poll 81 = .ok (.invokestatic 136, 3) := by decide +kernel
theorem dX7_poll_84 : decode cX7_poll 84 = .ok (.istore_n 3, 1) := by decide +kernel
theorem dX7_poll_85 : decode cX7_poll 85 = .ok (.aload_n 2, 1) := by decide +kernel
theorem dX7_poll_86 : decode cX7_poll 86 = .ok (.getfield 161, 3) := by decide +kernel
theorem dX7_poll_89 : decode cX7_poll 89 = .ok (.aload 5, 2) := by decide +kernel
theorem dX7_poll_91 : decode cX7_poll 91 = .ok (.invokevirtual 99, 3) := by decide +kernel
theorem dX7_poll_94 : decode cX7_poll 94 = .ok (.pop, 1) := by decide +kernel
theorem dX7_poll_95 : decode cX7_poll 95 = .ok (.iinc 4 1, 3) := by decide +kernel
theorem dX7_poll_98 : decode cX7_poll 98 = .ok (.goto (-73), 3) := by decide +kernel
theorem dX7_poll_101 : decode cX7_poll 101 = .ok (.aload_n 2, 1) := by decide +kernel
theorem dX7_poll_102 : decode cX7_poll 102 = .ok (.aload_n 0, 1) := by decide +kernel
theorem dX7_poll_103 : decode cX7_poll 103 = .ok (.getfield 16, 3) := by decide +kernel
theorem dX7_poll_106 : decode cX7_poll 106 = .ok (.invokevirtual 88, 3) := by decide +kernel
theorem dX7_poll_109 : decode cX7_poll 109 = .ok (.putfield 167, 3) := by decide +kernel
theorem dX7_poll_112 : decode cX7_poll 112 = .ok (.aload_n 2, 1) := by decide +kernel
theorem dX7_poll_113 : decode cX7_poll 113 = .ok (.getfield 161, 3) := by decide +kernel
theorem dX7_poll_116 : decode cX7_poll 116 = .ok (.invokevirtual 88, 3) := by decide +kernel
theorem dX7_poll_119 : decode cX7_poll 119 = .ok (.ireturn, 1) := by decide +kernel
theorem dX7_hour_0 : decode cX7_hour 0 = .ok (.aload_n 0, 1) := by decide +kernel
theorem dX7_hour_1 : decode cX7_hour 1 = .ok (.getfield 31, 3) := by decide +kernel
theorem dX7_hour_4 : decode cX7_hour 4 = .ok (.ireturn, 1) := by decide +kernel
theorem dX7_ofItem_0 : decode cX7_ofItem 0 = .ok (.aload_n 0, 1) := by decide +kernel
theorem dX7_ofItem_1 : decode cX7_ofItem 1 = .ok (.iload_n 1, 1) := by decide +kernel
theorem dX7_ofItem_2 : decode cX7_ofItem 2 = .ok (.invokevirtual 114, 3) := by decide +kernel
theorem dX7_ofItem_5 : decode cX7_ofItem 5 = .ok (.astore_n 3, 1) := by decide +kernel
theorem dX7_ofItem_6 : decode cX7_ofItem 6 = .ok (.iload_n 2, 1) := by decide +kernel
theorem dX7_ofItem_7 : decode cX7_ofItem 7 = .ok (.tableswitch 106 0 7 #[45, 50, 55, 69, 82, 90, 95, 100], 45) := by decide +kernel
theorem dX7_ofItem_52 : decode cX7_ofItem 52 = .ok (.aload_n 3, 1) := by decide +kernel
theorem dX7_ofItem_53 : decode cX7_ofItem 53 = .ok (.getfield 175, 3) := by decide +kernel
theorem dX7_ofItem_56 : decode cX7_ofItem 56 = .ok (.ireturn, 1) := by decide +kernel
theorem dX7_ofItem_57 : decode cX7_ofItem 57 = .ok (.aload_n 3, 1) := by decide +kernel
theorem dX7_ofItem_58 : decode cX7_ofItem 58 = .ok (.getfield 237, 3) := by decide +kernel
theorem dX7_ofItem_61 : decode cX7_ofItem 61 = .ok (.ireturn, 1) := by decide +kernel
theorem dX7_ofItem_62 : decode cX7_ofItem 62 = .ok (.aload_n 0, 1) := by decide +kernel
theorem dX7_ofItem_63 : decode cX7_ofItem 63 = .ok (.aload_n 3, 1) := by decide +kernel
theorem dX7_ofItem_64 : decode cX7_ofItem 64 = .ok (.invokevirtual 196, 3) := by decide +kernel
theorem dX7_ofItem_67 : decode cX7_ofItem 67 = .ok (.ifCond .eq 7, 3) := by decide +kernel
theorem dX7_ofItem_70 : decode cX7_ofItem 70 = .ok (.iconst 1, 1) := by decide +kernel
theorem dX7_ofItem_71 : decode cX7_ofItem 71 = .ok (.goto 4, 3) := by decide +kernel
theorem dX7_ofItem_74 : decode cX7_ofItem 74 = .ok (.iconst 0, 1) := by decide +kernel
theorem dX7_ofItem_75 : decode cX7_ofItem 75 = .ok (.ireturn, 1) := by decide +kernel
theorem dX7_ofItem_76 : decode cX7_ofItem 76 = .ok (.aload_n 3, 1) := by decide +kernel
theorem dX7_ofItem_77 : decode cX7_ofItem 77 = .ok (.getfield 129, 3) := by decide +kernel
theorem dX7_ofItem_80 : decode cX7_ofItem 80 = .ok (.ifCond .eq 7, 3) := by decide +kernel
theorem dX7_ofItem_83 : decode cX7_ofItem 83 = .ok (.iconst 1, 1) := by decide +kernel
theorem dX7_ofItem_84 : decode cX7_ofItem 84 = .ok (.goto 4, 3) := by decide +kernel
theorem dX7_ofItem_87 : decode cX7_ofItem 87 = .ok (.iconst 0, 1) := by decide +kernel
theorem dX7_ofItem_88 : decode cX7_ofItem 88 = .ok (.ireturn, 1) := by decide +kernel
theorem dX7_ofItem_89 : decode cX7_ofItem 89 = .ok (.aload_n 3, 1) := by decide +kernel
theorem dX7_ofItem_90 : decode cX7_ofItem 90 = .ok (.getfield 207, 3) := by decide +kernel
theorem dX7_ofItem_93 : decode cX7_ofItem 93 = .ok (.invokevirtual 88, 3) := by decide +kernel
theorem dX7_ofItem_96 : decode cX7_ofItem 96 = .ok (.ireturn, 1) := by decide +kernel
theorem dX7_ofItem_97 : decode cX7_ofItem 97 = .ok (.aload_n 3, 1) := by decide +kernel
theorem dX7_ofItem_98 : decode cX7_ofItem 98 = .ok (.invokevirtual 122, 3) := by decide +kernel
theorem dX7_ofItem_101 : decode cX7_ofItem 101 = .ok (.ireturn, 1) := by decide +kernel
theorem dX7_ofItem_102 : decode cX7_ofItem 102 = .ok (.aload_n 3, 1) := by decide +kernel
theorem dX7_ofItem_103 : decode cX7_ofItem 103 = .ok (.invokevirtual 240, 3) := by decide +kernel
theorem dX7_ofItem_106 : decode cX7_ofItem 106 = .ok (.ireturn, 1) := by decide +kernel
theorem dX7_ofItem_107 : decode cX7_ofItem 107 = .ok (.aload_n 0, 1) := by decide +kernel
theorem dX7_ofItem_108 : decode cX7_ofItem 108 = .ok (.iload_n 1, 1) := by decide +kernel
theorem dX7_ofItem_109 : decode cX7_ofItem 109 = .ok (.invokevirtual 243, 3) := by decide +kernel
theorem dX7_ofItem_112 : decode cX7_ofItem 112 = .ok (.ireturn, 1) := by decide +kernel
theorem dX7_ofItem_113 : decode cX7_ofItem 113 = .ok (.new 48, 3) := by decide +kernel
theorem dX7_ofItem_116 : decode cX7_ofItem 116 = .ok (.dup, 1) := by decide +kernel
theorem dX7_ofItem_117 : decode cX7_ofItem 117 = .ok (.ldc 247, 2) := by decide +kernel
theorem dX7_ofItem_119 : decode cX7_ofItem 119 = .ok (.invokespecial 52, 3) := by decide +kernel
theorem dX7_ofItem_122 : decode cX7_ofItem 122 = .ok (.athrow, 1) := by decide +kernel
theorem dX7_ofPart_0 : decode cX7_ofPart 0 = .ok (.aload_n 0, 1) := by decide +kernel
theorem dX7_ofPart_1 : decode cX7_ofPart 1 = .ok (.iload_n 1, 1) := by decide +kernel
theorem dX7_ofPart_2 : decode cX7_ofPart 2 = .ok (.invokevirtual 114, 3) := by decide +kernel
theorem dX7_ofPart_5 : decode cX7_ofPart 5 = .ok (.iload_n 2, 1) := by decide +kernel
theorem dX7_ofPart_6 : decode cX7_ofPart 6 = .ok (.invokevirtual 118, 3) := by decide +kernel
theorem dX7_ofPart_9 : decode cX7_ofPart 9 = .ok (.astore 4, 2) := by decide +kernel
theorem dX7_ofPart_11 : decode cX7_ofPart 11 = .ok (.iload_n 3, 1) := by decide +kernel
theorem dX7_ofPart_12 : decode cX7_ofPart 12 = .ok (.tableswitch 64 0 3 #[32, 38, 44, 50], 32) := by decide +kernel
theorem dX7_ofPart_44 : decode cX7_ofPart 44 = .ok (.aload 4, 2) := by decide +kernel
theorem dX7_ofPart_46 : decode cX7_ofPart 46 = .ok (.getfield 249, 3) := by decide +kernel
theorem dX7_ofPart_49 : decode cX7_ofPart 49 = .ok (.ireturn, 1) := by decide +kernel
theorem dX7_ofPart_50 : decode cX7_ofPart 50 = .ok (.aload 4, 2) := by decide +kernel
theorem dX7_ofPart_52 : decode cX7_ofPart 52 = .ok (.getfield 252, 3) := by decide +kernel
theorem dX7_ofPart_55 : decode cX7_ofPart 55 = .ok (.ireturn, 1) := by decide +kernel
theorem dX7_ofPart_56 : decode cX7_ofPart 56 = .ok (.aload 4, 2) := by decide +kernel
theorem dX7_ofPart_58 : decode cX7_ofPart 58 = .ok (.getfield 253, 3) := by decide +kernel
theorem dX7_ofPart_61 : decode cX7_ofPart 61 = .ok (.ireturn, 1) := by decide +kernel
theorem dX7_ofPart_62 : decode cX7_ofPart 62 = .ok (.aload 4, 2) := by decide +kernel
theorem dX7_ofPart_64 : decode cX7_ofPart 64 = .ok (.getfield 125, 3) := by decide +kernel
theorem dX7_ofPart_67 : decode cX7_ofPart 67 = .ok (.ifCond .eq 7, 3) := by decide +kernel
theorem dX7_ofPart_70 : decode cX7_ofPart 70 = .ok (.iconst 1, 1) := by decide +kernel
theorem dX7_ofPart_71 : decode cX7_ofPart 71 = .ok (.goto 4, 3) := by decide +kernel
theorem dX7_ofPart_74 : decode cX7_ofPart 74 = .ok (.iconst 0, 1) := by decide +kernel
theorem dX7_ofPart_75 : decode cX7_ofPart 75 = .ok (.ireturn, 1) := by decide +kernel
theorem dX7_ofPart_76 : decode cX7_ofPart 76 = .ok (.new 48, 3) := by decide +kernel
theorem dX7_ofPart_79 : decode cX7_ofPart 79 = .ok (.dup, 1) := by decide +kernel
theorem dX7_ofPart_80 : decode cX7_ofPart 80 = .ok (.ldc 247, 2) := by decide +kernel
theorem dX7_ofPart_82 : decode cX7_ofPart 82 = .ok (.invokespecial 52, 3) := by decide +kernel
theorem dX7_ofPart_85 : decode cX7_ofPart 85 = .ok (.athrow, 1) := by decide +kernel
theorem dX7_told_0 : decode cX7_told 0 = .ok (.aload_n 0, 1) := by decide +kernel
theorem dX7_told_1 : decode cX7_told 1 = .ok (.iload_n 1, 1) := by decide +kernel
theorem dX7_told_2 : decode cX7_told 2 = .ok (.invokevirtual 157, 3) := by decide +kernel
theorem dX7_told_5 : decode cX7_told 5 = .ok (.astore_n 3, 1) := by decide +kernel
theorem dX7_told_6 : decode cX7_told 6 = .ok (.iload_n 2, 1) := by decide +kernel
theorem dX7_told_7 : decode cX7_told 7 = .ok (.ifCond .ge 14, 3) := by decide +kernel
theorem dX7_told_10 : decode cX7_told 10 = .ok (.new 256, 3) := by decide +kernel
theorem dX7_told_13 : decode cX7_told 13 = .ok (.dup, 1) := by decide +kernel
theorem dX7_told_14 : decode cX7_told 14 = .ok (.ldc_w 258, 3) := by decide +kernel
theorem dX7_told_17 : decode cX7_told 17 = .ok (.invokespecial 260, 3) := by decide +kernel
theorem dX7_told_20 : decode cX7_told 20 = .ok (.athrow, 1) := by decide +kernel
theorem dX7_told_21 : decode cX7_told 21 = .ok (.iload_n 2, 1) := by decide +kernel
theorem dX7_told_22 : decode cX7_told 22 = .ok (.aload_n 3, 1) := by decide +kernel
theorem dX7_told_23 : decode cX7_told 23 = .ok (.getfield 161, 3) := by decide +kernel
theorem dX7_told_26 : decode cX7_told 26 = .ok (.invokevirtual 88, 3) := by decide +kernel
theorem dX7_told_29 : decode cX7_told 29 = .ok (.if_icmp .ge 20, 3) := by decide +kernel
theorem dX7_told_32 : decode cX7_told 32 = .ok (.aload_n 3, 1) := by decide +kernel
theorem dX7_told_33 : decode cX7_told 33 = .ok (.getfield 161, 3) := by decide +kernel
theorem dX7_told_36 : decode cX7_told 36 = .ok (.iload_n 2, 1) := by decide +kernel
theorem dX7_told_37 : decode cX7_told 37 = .ok (.invokevirtual 140, 3) := by decide +kernel
theorem dX7_told_40 : decode cX7_told 40 = .ok (.checkcast 94, 3) := by decide +kernel
theorem dX7_told_43 : decode cX7_told 43 = .ok (.getfield 111, 3) := by decide +kernel
theorem dX7_told_46 : decode cX7_told 46 = .ok (.goto 4, 3) := by decide +kernel
theorem dX7_told_49 : decode cX7_told 49 = .ok (.iconst (-1), 1) := by decide +kernel
theorem dX7_told_50 : decode cX7_told 50 = .ok (.ireturn, 1) := by decide +kernel
theorem dX7_isIn_0 : decode cX7_isIn 0 = .ok (.iload_n 0, 1) := by decide +kernel
theorem dX7_isIn_1 : decode cX7_isIn 1 = .ok (.iload_n 1, 1) := by decide +kernel
theorem dX7_isIn_2 : decode cX7_isIn 2 = .ok (.if_icmp .lt 12, 3) := by decide +kernel
theorem dX7_isIn_5 : decode cX7_isIn 5 = .ok (.iload_n 0, 1) := by decide +kernel
theorem dX7_isIn_6 : decode cX7_isIn 6 = .ok (.iload_n 2, 1) := by decide +kernel
theorem dX7_isIn_7 : decode cX7_isIn 7 = .ok (.if_icmp .gt 7, 3) := by decide +kernel
theorem dX7_isIn_10 : decode cX7_isIn 10 = .ok (.iconst 1, 1) := by decide +kernel
theorem dX7_isIn_11 : decode cX7_isIn 11 = .ok (.goto 4, 3) := by decide +kernel
theorem dX7_isIn_14 : decode cX7_isIn 14 = .ok (.iconst 0, 1) := by decide +kernel
theorem dX7_isIn_15 : decode cX7_isIn 15 = .ok (.ireturn, 1) := by decide +kernel
theorem dX7_hasBit_0 : decode cX7_hasBit 0 = .ok (.iload_n 0, 1) := by decide +kernel
theorem dX7_hasBit_1 : decode cX7_hasBit 1 = .ok (.iconst 1, 1) := by decide +kernel
theorem dX7_hasBit_2 : decode cX7_hasBit 2 = .ok (.iload_n 1, 1) := by decide +kernel
theorem dX7_hasBit_3 : decode cX7_hasBit 3 = .ok (.ishl, 1) := by decide +kernel
theorem dX7_hasBit_4 : decode cX7_hasBit 4 = .ok (.iand, 1) := by decide +kernel
theorem dX7_hasBit_5 : decode cX7_hasBit 5 = .ok (.ifCond .eq 7, 3) := by decide +kernel
theorem dX7_hasBit_8 : decode cX7_hasBit 8 = .ok (.iconst 1, 1) := by decide +kernel
theorem dX7_hasBit_9 : decode cX7_hasBit 9 = .ok (.goto 4, 3) := by decide +kernel
theorem dX7_hasBit_12 : decode cX7_hasBit 12 = .ok (.iconst 0, 1) := by decide +kernel
theorem dX7_hasBit_13 : decode cX7_hasBit 13 = .ok (.ireturn, 1) := by decide +kernel
theorem dX7_withBit_0 : decode cX7_withBit 0 = .ok (.iload_n 0, 1) := by decide +kernel
theorem dX7_withBit_1 : decode cX7_withBit 1 = .ok (.iconst 1, 1) := by decide +kernel
theorem dX7_withBit_2 : decode cX7_withBit 2 = .ok (.iload_n 1, 1) := by decide +kernel
theorem dX7_withBit_3 : decode cX7_withBit 3 = .ok (.ishl, 1) := by decide +kernel
theorem dX7_withBit_4 : decode cX7_withBit 4 = .ok (.ior, 1) := by decide +kernel
theorem dX7_withBit_5 : decode cX7_withBit 5 = .ok (.ireturn, 1) := by decide +kernel
theorem dX7_needShow_0 : decode cX7_needShow 0 = .ok (.iload_n 0, 1) := by decide +kernel
theorem dX7_needShow_1 : decode cX7_needShow 1 = .ok (.ifCond .lt 8, 3) := by decide +kernel
theorem dX7_needShow_4 : decode cX7_needShow 4 = .ok (.iload_n 0, 1) := by decide +kernel
theorem dX7_needShow_5 : decode cX7_needShow 5 = .ok (.iconst 4, 1) := by decide +kernel
theorem dX7_needShow_6 : decode cX7_needShow 6 = .ok (.if_icmp .lt 14, 3) := by decide +kernel
theorem dX7_needShow_9 : decode cX7_needShow 9 = .ok (.new 256, 3) := by decide +kernel
theorem dX7_needShow_12 : decode cX7_needShow 12 = .ok (.dup, 1) := by decide +kernel
theorem dX7_needShow_13 : decode cX7_needShow 13 = .ok (.ldc_w 308, 3) := by decide +kernel
theorem dX7_needShow_16 : decode cX7_needShow 16 = .ok (.invokespecial 260, 3) := by decide +kernel
theorem dX7_needShow_19 : decode cX7_needShow 19 = .ok (.athrow, 1) := by decide +kernel
theorem dX7_needShow_20 : decode cX7_needShow 20 = .ok (.return_, 1) := by decide +kernel
theorem dX7_needSong_0 : decode cX7_needSong 0 = .ok (.iload_n 0, 1) := by decide +kernel
theorem dX7_needSong_1 : decode cX7_needSong 1 = .ok (.ifCond .lt 9, 3) := by decide +kernel
theorem dX7_needSong_4 : decode cX7_needSong 4 = .ok (.iload_n 0, 1) := by decide +kernel
theorem dX7_needSong_5 : decode cX7_needSong 5 = .ok (.bipush 10, 2) := by decide +kernel
theorem dX7_needSong_7 : decode cX7_needSong 7 = .ok (.if_icmp .lt 14, 3) := by decide +kernel
theorem dX7_needSong_10 : decode cX7_needSong 10 = .ok (.new 256, 3) := by decide +kernel
theorem dX7_needSong_13 : decode cX7_needSong 13 = .ok (.dup, 1) := by decide +kernel
theorem dX7_needSong_14 : decode cX7_needSong 14 = .ok (.ldc_w 310, 3) := by decide +kernel
theorem dX7_needSong_17 : decode cX7_needSong 17 = .ok (.invokespecial 260, 3) := by decide +kernel
theorem dX7_needSong_20 : decode cX7_needSong 20 = .ok (.athrow, 1) := by decide +kernel
theorem dX7_needSong_21 : decode cX7_needSong 21 = .ok (.return_, 1) := by decide +kernel
theorem dX7_itemAt_0 : decode cX7_itemAt 0 = .ok (.iload_n 1, 1) := by decide +kernel
theorem dX7_itemAt_1 : decode cX7_itemAt 1 = .ok (.ifCond .lt 14, 3) := by decide +kernel
theorem dX7_itemAt_4 : decode cX7_itemAt 4 = .ok (.iload_n 1, 1) := by decide +kernel
theorem dX7_itemAt_5 : decode cX7_itemAt 5 = .ok (.aload_n 0, 1) := by decide +kernel
theorem dX7_itemAt_6 : decode cX7_itemAt 6 = .ok (.getfield 10, 3) := by decide +kernel
theorem dX7_itemAt_9 : decode cX7_itemAt 9 = .ok (.invokevirtual 88, 3) := by decide +kernel
theorem dX7_itemAt_12 : decode cX7_itemAt 12 = .ok (.if_icmp .lt 14, 3) := by decide +kernel
theorem dX7_itemAt_15 : decode cX7_itemAt 15 = .ok (.new 256, 3) := by decide +kernel
theorem dX7_itemAt_18 : decode cX7_itemAt 18 = .ok (.dup, 1) := by decide +kernel
theorem dX7_itemAt_19 : decode cX7_itemAt 19 = .ok (.ldc_w 316, 3) := by decide +kernel
theorem dX7_itemAt_22 : decode cX7_itemAt 22 = .ok (.invokespecial 260, 3) := by decide +kernel
theorem dX7_itemAt_25 : decode cX7_itemAt 25 = .ok (.athrow, 1) := by decide +kernel
theorem dX7_itemAt_26 : decode cX7_itemAt 26 = .ok (.aload_n 0, 1) := by decide +kernel
theorem dX7_itemAt_27 : decode cX7_itemAt 27 = .ok (.getfield 10, 3) := by decide +kernel
theorem dX7_itemAt_30 : decode cX7_itemAt 30 = .ok (.iload_n 1, 1) := by decide +kernel
theorem dX7_itemAt_31 : decode cX7_itemAt 31 = .ok (.invokevirtual 140, 3) := by decide +kernel
theorem dX7_itemAt_34 : decode cX7_itemAt 34 = .ok (.checkcast 94, 3) := by decide +kernel
theorem dX7_itemAt_37 : decode cX7_itemAt 37 = .ok (.areturn, 1) := by decide +kernel
theorem dX7_appAt_0 : decode cX7_appAt 0 = .ok (.iload_n 1, 1) := by decide +kernel
theorem dX7_appAt_1 : decode cX7_appAt 1 = .ok (.ifCond .lt 14, 3) := by decide +kernel
theorem dX7_appAt_4 : decode cX7_appAt 4 = .ok (.iload_n 1, 1) := by decide +kernel
theorem dX7_appAt_5 : decode cX7_appAt 5 = .ok (.aload_n 0, 1) := by decide +kernel
theorem dX7_appAt_6 : decode cX7_appAt 6 = .ok (.getfield 19, 3) := by decide +kernel
theorem dX7_appAt_9 : decode cX7_appAt 9 = .ok (.invokevirtual 88, 3) := by decide +kernel
theorem dX7_appAt_12 : decode cX7_appAt 12 = .ok (.if_icmp .lt 14, 3) := by decide +kernel
theorem dX7_appAt_15 : decode cX7_appAt 15 = .ok (.new 256, 3) := by decide +kernel
theorem dX7_appAt_18 : decode cX7_appAt 18 = .ok (.dup, 1) := by decide +kernel
theorem dX7_appAt_19 : decode cX7_appAt 19 = .ok (.ldc_w 318, 3) := by decide +kernel
theorem dX7_appAt_22 : decode cX7_appAt 22 = .ok (.invokespecial 260, 3) := by decide +kernel
theorem dX7_appAt_25 : decode cX7_appAt 25 = .ok (.athrow, 1) := by decide +kernel
theorem dX7_appAt_26 : decode cX7_appAt 26 = .ok (.aload_n 0, 1) := by decide +kernel
theorem dX7_appAt_27 : decode cX7_appAt 27 = .ok (.getfield 19, 3) := by decide +kernel
theorem dX7_appAt_30 : decode cX7_appAt 30 = .ok (.iload_n 1, 1) := by decide +kernel
theorem dX7_appAt_31 : decode cX7_appAt 31 = .ok (.invokevirtual 140, 3) := by decide +kernel
theorem dX7_appAt_34 : decode cX7_appAt 34 = .ok (.checkcast 153, 3) := by decide +kernel
theorem dX7_appAt_37 : decode cX7_appAt 37 = .ok (.areturn, 1) := by decide +kernel
theorem dX7_addToDraft_0 : decode cX7_addToDraft 0 = .ok (.aload_n 0, 1) := by decide +kernel
theorem dX7_addToDraft_1 : decode cX7_addToDraft 1 = .ok (.getfield 28, 3) := by decide +kernel
theorem dX7_addToDraft_4 : decode cX7_addToDraft 4 = .ok (.invokevirtual 88, 3) := by decide +kernel
theorem dX7_addToDraft_7 : decode cX7_addToDraft 7 = .ok (.bipush 10, 2) := by decide +kernel
theorem dX7_addToDraft_9 : decode cX7_addToDraft 9 = .ok (.if_icmp .lt 14, 3) := by decide +kernel
theorem dX7_addToDraft_12 : decode cX7_addToDraft 12 = .ok (.new 72, 3) := by decide +kernel
theorem dX7_addToDraft_15 : decode cX7_addToDraft 15 = .ok (.dup, 1) := by decide +kernel
theorem dX7_addToDraft_16 : decode cX7_addToDraft 16 = .ok (.ldc_w 324, 3) := by decide +kernel
theorem dX7_addToDraft_19 : decode cX7_addToDraft 19 = .ok (.invokespecial 76, 3) := by decide +kernel
theorem dX7_addToDraft_22 : decode cX7_addToDraft 22 = .ok (.athrow, 1) := by decide +kernel
theorem dX7_addToDraft_23 : decode cX7_addToDraft 23 = .ok (.aload_n 0, 1) := by decide +kernel
theorem dX7_addToDraft_24 : decode cX7_addToDraft 24 = .ok (.getfield 28, 3) := by decide +kernel
theorem dX7_addToDraft_27 : decode cX7_addToDraft 27 = .ok (.aload_n 1, 1) := by decide +kernel
theorem dX7_addToDraft_28 : decode cX7_addToDraft 28 = .ok (.invokevirtual 99, 3) := by decide +kernel
theorem dX7_addToDraft_31 : decode cX7_addToDraft 31 = .ok (.pop, 1) := by decide +kernel
theorem dX7_addToDraft_32 : decode cX7_addToDraft 32 = .ok (.aload_n 0, 1) := by decide +kernel
theorem dX7_addToDraft_33 : decode cX7_addToDraft 33 = .ok (.getfield 28, 3) := by decide +kernel
theorem dX7_addToDraft_36 : decode cX7_addToDraft 36 = .ok (.invokevirtual 88, 3) := by decide +kernel
theorem dX7_addToDraft_39 : decode cX7_addToDraft 39 = .ok (.ireturn, 1) := by decide +kernel
theorem dX7_isOut_0 : decode cX7_isOut 0 = .ok (.aload_n 1, 1) := by decide +kernel
theorem dX7_isOut_1 : decode cX7_isOut 1 = .ok (.getfield 249, 3) := by decide +kernel
theorem dX7_isOut_4 : decode cX7_isOut 4 = .ok (.iconst 1, 1) := by decide +kernel
theorem dX7_isOut_5 : decode cX7_isOut 5 = .ok (.if_icmp .ne 21, 3) := by decide +kernel
theorem dX7_isOut_8 : decode cX7_isOut 8 = .ok (.aload_n 0, 1) := by decide +kernel
theorem dX7_isOut_9 : decode cX7_isOut 9 = .ok (.getfield 35, 3) := by decide +kernel
theorem dX7_isOut_12 : decode cX7_isOut 12 = .ok (.aload_n 1, 1) := by decide +kernel
theorem dX7_isOut_13 : decode cX7_isOut 13 = .ok (.getfield 253, 3) := by decide +kernel
theorem dX7_isOut_16 : decode cX7_isOut 16 = .ok (.invokestatic 68, 3) := by decide +kernel
theorem dX7_isOut_19 : decode cX7_isOut 19 = .ok (.ifCond .eq 7, 3) := by decide +kernel
theorem dX7_isOut_22 : decode cX7_isOut 22 = .ok (.iconst 1, 1) := by decide +kernel
theorem dX7_isOut_23 : decode cX7_isOut 23 = .ok (.goto 4, 3) := by decide +kernel
theorem dX7_isOut_26 : decode cX7_isOut 26 = .ok (.iconst 0, 1) := by decide +kernel
theorem dX7_isOut_27 : decode cX7_isOut 27 = .ok (.ireturn, 1) := by decide +kernel
theorem dX7_isDraftOfUse_0 : decode cX7_isDraftOfUse 0 = .ok (.iconst 0, 1) := by decide +kernel
theorem dX7_isDraftOfUse_1 : decode cX7_isDraftOfUse 1 = .ok (.istore_n 1, 1) := by decide +kernel
theorem dX7_isDraftOfUse_2 : decode cX7_isDraftOfUse 2 = .ok (.iload_n 1, 1) := by decide +kernel
theorem dX7_isDraftOfUse_3 : decode cX7_isDraftOfUse 3 = .ok (.aload_n 0, 1) := by decide +kernel
theorem dX7_isDraftOfUse_4 : decode cX7_isDraftOfUse 4 = .ok (.getfield 28, 3) := by decide +kernel
theorem dX7_isDraftOfUse_7 : decode cX7_isDraftOfUse 7 = .ok (.invokevirtual 88, 3) := by decide +kernel
theorem dX7_isDraftOfUse_10 : decode cX7_isDraftOfUse 10 = .ok (.if_icmp .ge 29, 3) := by decide +kernel
theorem dX7_isDraftOfUse_13 : decode cX7_isDraftOfUse 13 = .ok (.aload_n 0, 1) := by decide +kernel
theorem dX7_isDraftOfUse_14 : decode cX7_isDraftOfUse 14 = .ok (.aload_n 0, 1) := by decide +kernel
theorem dX7_isDraftOfUse_15 : decode cX7_isDraftOfUse 15 = .ok (.getfield 28, 3) := by decide +kernel
theorem dX7_isDraftOfUse_18 : decode cX7_isDraftOfUse 18 = .ok (.iload_n 1, 1) := by decide +kernel
theorem dX7_isDraftOfUse_19 : decode cX7_isDraftOfUse 19 = .ok (.invokevirtual 140, 3) := by decide +kernel
theorem dX7_isDraftOfUse_22 : decode cX7_isDraftOfUse 22 = .ok (.checkcast 55, 3) := by decide +kernel
theorem dX7_isDraftOfUse_25 : decode cX7_isDraftOfUse 25 = .ok (.invokevirtual 326, 3) := by decide +kernel
theorem dX7_isDraftOfUse_28 : decode cX7_isDraftOfUse 28 = .ok (.ifCond .ne 5, 3) := by decide +kernel
theorem dX7_isDraftOfUse_31 : decode cX7_isDraftOfUse 31 = .ok (.iconst 1, 1) := by decide +kernel
theorem dX7_isDraftOfUse_32 : decode cX7_isDraftOfUse 32 = .ok (.ireturn, 1) := by decide +kernel
theorem dX7_isDraftOfUse_33 : decode cX7_isDraftOfUse 33 = .ok (.iinc 1 1, 3) := by decide +kernel
theorem dX7_isDraftOfUse_36 : decode cX7_isDraftOfUse 36 = .ok (.goto (-34), 3) := by decide +kernel
theorem dX7_isDraftOfUse_39 : decode cX7_isDraftOfUse 39 = .ok (.iconst 0, 1) := by decide +kernel
theorem dX7_isDraftOfUse_40 : decode cX7_isDraftOfUse 40 = .ok (.ireturn, 1) := by decide +kernel
theorem dX7_cutWhatIsOut_0 : decode cX7_cutWhatIsOut 0 = .ok (.iconst 0, 1) := by decide +kernel
theorem dX7_cutWhatIsOut_1 : decode cX7_cutWhatIsOut 1 = .ok (.istore_n 2, 1) := by decide +kernel
theorem dX7_cutWhatIsOut_2 : decode cX7_cutWhatIsOut 2 = .ok (.iconst 0, 1) := by decide +kernel
theorem dX7_cutWhatIsOut_3 : decode cX7_cutWhatIsOut 3 = .ok (.istore_n 3, 1) := by decide +kernel
theorem dX7_cutWhatIsOut_4 : decode cX7_cutWhatIsOut 4 = .ok (.iload_n 3, 1) := by decide +kernel
theorem dX7_cutWhatIsOut_5 : decode cX7_cutWhatIsOut 5 = .ok (.aload_n 1, 1) := by decide +kernel
theorem dX7_cutWhatIsOut_6 : decode cX7_cutWhatIsOut 6 = .ok (.getfield 207, 3) := by decide +kernel
theorem dX7_cutWhatIsOut_9 : decode cX7_cutWhatIsOut 9 = .ok (.invokevirtual 88, 3) := by decide +kernel
theorem dX7_cutWhatIsOut_12 : decode cX7_cutWhatIsOut 12 = .ok (.if_icmp .ge 48, 3) := by decide +kernel
theorem dX7_cutWhatIsOut_15 : decode cX7_cutWhatIsOut 15 = .ok (.aload_n 1, 1) := by decide +kernel
theorem dX7_cutWhatIsOut_16 : decode cX7_cutWhatIsOut 16 = .ok (.getfield 207, 3) := by decide +kernel
theorem dX7_cutWhatIsOut_19 : decode cX7_cutWhatIsOut 19 = .ok (.iload_n 3, 1) := by decide +kernel
theorem dX7_cutWhatIsOut_20 : decode cX7_cutWhatIsOut 20 = .ok (.invokevirtual 140, 3) := by decide +kernel
theorem dX7_cutWhatIsOut_23 : decode cX7_cutWhatIsOut 23 = .ok (.checkcast 55, 3) := by decide +kernel
theorem dX7_cutWhatIsOut_26 : decode cX7_cutWhatIsOut 26 = .ok (.astore 4, 2) := by decide +kernel
theorem dX7_cutWhatIsOut_28 : decode cX7_cutWhatIsOut 28 = .ok (.aload 4, 2) := by decide +kernel
theorem dX7_cutWhatIsOut_30 : decode cX7_cutWhatIsOut 30 = .ok (.getfield 125, 3) := by decide +kernel
theorem dX7_cutWhatIsOut_33 : decode cX7_cutWhatIsOut 33 = .ok (.ifCond .ne 21, 3) := by decide +kernel
theorem dX7_cutWhatIsOut_36 : decode cX7_cutWhatIsOut 36 = .ok (.aload_n 0, 1) := by decide +kernel
theorem dX7_cutWhatIsOut_37 : decode cX7_cutWhatIsOut 37 = .ok (.aload 4, 2) := by decide +kernel
theorem dX7_cutWhatIsOut_39 : decode cX7_cutWhatIsOut 39 = .ok (.invokevirtual 326, 3) := by decide +kernel
theorem dX7_cutWhatIsOut_42 : decode cX7_cutWhatIsOut 42 = .ok (.ifCond .eq 12, 3) := by decide +kernel
theorem dX7_cutWhatIsOut_45 : decode cX7_cutWhatIsOut 45 = .ok (.aload 4, 2) := by decide +kernel
theorem dX7_cutWhatIsOut_47 : decode cX7_cutWhatIsOut 47 = .ok (.iconst 1, 1) := by decide +kernel
theorem dX7_cutWhatIsOut_48 : decode cX7_cutWhatIsOut 48 = .ok (.putfield 125, 3) := by decide +kernel
theorem dX7_cutWhatIsOut_51 : decode cX7_cutWhatIsOut 51 = .ok (.iinc 2 1, 3) := by decide +kernel
theorem dX7_cutWhatIsOut_54 : decode cX7_cutWhatIsOut 54 = .ok (.iinc 3 1, 3) := by decide +kernel
theorem dX7_cutWhatIsOut_57 : decode cX7_cutWhatIsOut 57 = .ok (.goto (-53), 3) := by decide +kernel
theorem dX7_cutWhatIsOut_60 : decode cX7_cutWhatIsOut 60 = .ok (.aload_n 1, 1) := by decide +kernel
theorem dX7_cutWhatIsOut_61 : decode cX7_cutWhatIsOut 61 = .ok (.invokevirtual 122, 3) := by decide +kernel
theorem dX7_cutWhatIsOut_64 : decode cX7_cutWhatIsOut 64 = .ok (.ifCond .ne 8, 3) := by decide +kernel
theorem dX7_cutWhatIsOut_67 : decode cX7_cutWhatIsOut 67 = .ok (.aload_n 1, 1) := by decide +kernel
theorem dX7_cutWhatIsOut_68 : decode cX7_cutWhatIsOut 68 = .ok (.iconst 1, 1) := by decide +kernel
theorem dX7_cutWhatIsOut_69 : decode cX7_cutWhatIsOut 69 = .ok (.putfield 129, 3) := by decide +kernel
theorem dX7_cutWhatIsOut_72 : decode cX7_cutWhatIsOut 72 = .ok (.iload_n 2, 1) := by decide +kernel
theorem dX7_cutWhatIsOut_73 : decode cX7_cutWhatIsOut 73 = .ok (.ireturn, 1) := by decide +kernel
theorem dX7_isReleased_0 : decode cX7_isReleased 0 = .ok (.aload_n 1, 1) := by decide +kernel
theorem dX7_isReleased_1 : decode cX7_isReleased 1 = .ok (.getfield 237, 3) := by decide +kernel
theorem dX7_isReleased_4 : decode cX7_isReleased 4 = .ok (.aload_n 0, 1) := by decide +kernel
theorem dX7_isReleased_5 : decode cX7_isReleased 5 = .ok (.getfield 31, 3) := by decide +kernel
theorem dX7_isReleased_8 : decode cX7_isReleased 8 = .ok (.if_icmp .gt 7, 3) := by decide +kernel
theorem dX7_isReleased_11 : decode cX7_isReleased 11 = .ok (.iconst 1, 1) := by decide +kernel
theorem dX7_isReleased_12 : decode cX7_isReleased 12 = .ok (.goto 4, 3) := by decide +kernel
theorem dX7_isReleased_15 : decode cX7_isReleased 15 = .ok (.iconst 0, 1) := by decide +kernel
theorem dX7_isReleased_16 : decode cX7_isReleased 16 = .ok (.ireturn, 1) := by decide +kernel
theorem dX7_noteChange_0 : decode cX7_noteChange 0 = .ok (.aload_n 0, 1) := by decide +kernel
theorem dX7_noteChange_1 : decode cX7_noteChange 1 = .ok (.aload_n 1, 1) := by decide +kernel
theorem dX7_noteChange_2 : decode cX7_noteChange 2 = .ok (.invokevirtual 196, 3) := by decide +kernel
theorem dX7_noteChange_5 : decode cX7_noteChange 5 = .ok (.ifCond .eq 12, 3) := by decide +kernel
theorem dX7_noteChange_8 : decode cX7_noteChange 8 = .ok (.aload_n 0, 1) := by decide +kernel
theorem dX7_noteChange_9 : decode cX7_noteChange 9 = .ok (.getfield 16, 3) := by decide +kernel
theorem dX7_noteChange_12 : decode cX7_noteChange 12 = .ok (.aload_n 1, 1) := by decide +kernel
theorem dX7_noteChange_13 : decode cX7_noteChange 13 = .ok (.invokevirtual 99, 3) := by decide +kernel
theorem dX7_noteChange_16 : decode cX7_noteChange 16 = .ok (.pop, 1) := by decide +kernel
theorem dX7_noteChange_17 : decode cX7_noteChange 17 = .ok (.return_, 1) := by decide +kernel
theorem dX7_releaseItemsOfThisHour_0 : decode cX7_releaseItemsOfThisHour 0 = .ok (.iconst 0, 1) := by decide +kernel
theorem dX7_releaseItemsOfThisHour_1 : decode cX7_releaseItemsOfThisHour 1 = .ok (.istore_n 1, 1) := by decide +kernel
theorem dX7_releaseItemsOfThisHour_2 : decode cX7_releaseItemsOfThisHour 2 = .ok (.iload_n 1, 1) := by decide +kernel
theorem dX7_releaseItemsOfThisHour_3 : decode cX7_releaseItemsOfThisHour 3 = .ok (.aload_n 0, 1) := by decide +kernel
theorem dX7_releaseItemsOfThisHour_4 : decode cX7_releaseItemsOfThisHour 4 = .ok (.getfield 10, 3) := by decide +kernel
theorem dX7_releaseItemsOfThisHour_7 : decode cX7_releaseItemsOfThisHour 7 = .ok (.invokevirtual 88, 3) := by decide +kernel
theorem dX7_releaseItemsOfThisHour_10 : decode cX7_releaseItemsOfThisHour 10 = .ok (.if_icmp .ge 41, 3) := by decide +kernel
theorem dX7_releaseItemsOfThisHour_13 : decode cX7_releaseItemsOfThisHour 13 = .ok (.aload_n 0, 1) := by decide +kernel
theorem dX7_releaseItemsOfThisHour_14 : decode cX7_releaseItemsOfThisHour 14 = .ok (.getfield 10, 3) := by decide +kernel
theorem dX7_releaseItemsOfThisHour_17 : decode cX7_releaseItemsOfThisHour 17 = .ok (.iload_n 1, 1) := by decide +kernel
theorem dX7_releaseItemsOfThisHour_18 : decode cX7_releaseItemsOfThisHour 18 = .ok (.invokevirtual 140, 3) := by decide +kernel
theorem dX7_releaseItemsOfThisHour_21 : decode cX7_releaseItemsOfThisHour 21 = .ok (.checkcast 94, 3) := by decide +kernel
theorem dX7_releaseItemsOfThisHour_24 : decode cX7_releaseItemsOfThisHour 24 = .ok (.astore_n 2, 1) := by decide +kernel
theorem dX7_releaseItemsOfThisHour_25 : decode cX7_releaseItemsOfThisHour 25 = .ok (.aload_n 2, 1) := by decide +kernel
theorem dX7_releaseItemsOfThisHour_26 : decode cX7_releaseItemsOfThisHour 26 = .ok (.getfield 237, 3) := by decide +kernel
theorem dX7_releaseItemsOfThisHour_29 : decode cX7_releaseItemsOfThisHour 29 = .ok (.aload_n 0, 1) := by decide +kernel
theorem dX7_releaseItemsOfThisHour_30 : decode cX7_releaseItemsOfThisHour 30 = .ok (.getfield 31, 3) := by decide +kernel
theorem dX7_releaseItemsOfThisHour_33 : decode cX7_releaseItemsOfThisHour 33 = .ok (.if_icmp .ne 12, 3) := by decide +kernel
theorem dX7_releaseItemsOfThisHour_36 : decode cX7_releaseItemsOfThisHour 36 = .ok (.aload_n 0, 1) := by decide +kernel
theorem dX7_releaseItemsOfThisHour_37 : decode cX7_releaseItemsOfThisHour 37 = .ok (.getfield 16, 3) := by decide +kernel
theorem dX7_releaseItemsOfThisHour_40 : decode cX7_releaseItemsOfThisHour 40 = .ok (.aload_n 2, 1) := by decide +kernel
theorem dX7_releaseItemsOfThisHour_41 : decode cX7_releaseItemsOfThisHour 41 = .ok (.invokevirtual 99, 3) := by decide +kernel
theorem dX7_releaseItemsOfThisHour_44 : decode cX7_releaseItemsOfThisHour 44 = .ok (.pop, 1) := by decide +kernel
theorem dX7_releaseItemsOfThisHour_45 : decode cX7_releaseItemsOfThisHour 45 = .ok (.iinc 1 1, 3) := by decide +kernel
theorem dX7_releaseItemsOfThisHour_48 : decode cX7_releaseItemsOfThisHour 48 = .ok (.goto (-46), 3) := by decide +kernel
theorem dX7_releaseItemsOfThisHour_51 : decode cX7_releaseItemsOfThisHour 51 = .ok (.return_, 1) := by decide +kernel
theorem dX7_downloadsOf_0 : decode cX7_downloadsOf 0 = .ok (.iconst 0, 1) := by decide +kernel
theorem dX7_downloadsOf_1 : decode cX7_downloadsOf 1 = .ok (.istore_n 2, 1) := by decide +kernel
theorem dX7_downloadsOf_2 : decode cX7_downloadsOf 2 = .ok (.iconst 0, 1) := by decide +kernel
theorem dX7_downloadsOf_3 : decode cX7_downloadsOf 3 = .ok (.istore_n 3, 1) := by decide +kernel
theorem dX7_downloadsOf_4 : decode cX7_downloadsOf 4 = .ok (.iload_n 3, 1) := by decide +kernel
theorem dX7_downloadsOf_5 : decode cX7_downloadsOf 5 = .ok (.aload_n 0, 1) := by decide +kernel
theorem dX7_downloadsOf_6 : decode cX7_downloadsOf 6 = .ok (.getfield 25, 3) := by decide +kernel
theorem dX7_downloadsOf_9 : decode cX7_downloadsOf 9 = .ok (.invokevirtual 88, 3) := by decide +kernel
theorem dX7_downloadsOf_12 : decode cX7_downloadsOf 12 = .ok (.if_icmp .ge 30, 3) := by decide +kernel
theorem dX7_downloadsOf_15 : decode cX7_downloadsOf 15 = .ok (.aload_n 0, 1) := by decide +kernel
theorem dX7_downloadsOf_16 : decode cX7_downloadsOf 16 = .ok (.getfield 25, 3) := by decide +kernel
theorem dX7_downloadsOf_19 : decode cX7_downloadsOf 19 = .ok (.iload_n 3, 1) := by decide +kernel
theorem dX7_downloadsOf_20 : decode cX7_downloadsOf 20 = .ok (.invokevirtual 140, 3) := by decide +kernel
theorem dX7_downloadsOf_23 : decode cX7_downloadsOf 23 = .ok (.checkcast 202, 3) := by decide +kernel
theorem dX7_downloadsOf_26 : decode cX7_downloadsOf 26 = .ok (.getfield 278, 3) := by decide +kernel
theorem dX7_downloadsOf_29 : decode cX7_downloadsOf 29 = .ok (.iload_n 1, 1) := by decide +kernel
theorem dX7_downloadsOf_30 : decode cX7_downloadsOf 30 = .ok (.if_icmp .ne 6, 3) := by decide +kernel
theorem dX7_downloadsOf_33 : decode cX7_downloadsOf 33 = .ok (.iinc 2 1, 3) := by decide +kernel
theorem dX7_downloadsOf_36 : decode cX7_downloadsOf 36 = .ok (.iinc 3 1, 3) := by decide +kernel
theorem dX7_downloadsOf_39 : decode cX7_downloadsOf 39 = .ok (.goto (-35), 3) := by decide +kernel
theorem dX7_downloadsOf_42 : decode cX7_downloadsOf 42 = .ok (.iload_n 2, 1) := by decide +kernel
theorem dX7_downloadsOf_43 : decode cX7_downloadsOf 43 = .ok (.ireturn, 1) := by decide +kernel
end
section
theorem dX0_init_0 : decode cX0_init 0 = .ok (.aload_n 0, 1) := by decide +kernel
theorem dX0_init_1 : decode cX0_init 1 = .ok (.invokespecial 1, 3) := by decide +kernel
theorem dX0_init_4 : decode cX0_init 4 = .ok (.aload_n 0, 1) := by decide +kernel
theorem dX0_init_5 : decode cX0_init 5 = .ok (.new 7, 3) := by decide +kernel
theorem dX0_init_8 : decode cX0_init 8 = .ok (.dup, 1) := by decide +kernel
theorem dX0_init_9 : decode cX0_init 9 = .ok (.invokespecial 9, 3) := by decide +kernel
theorem dX0_init_12 : decode cX0_init 12 = .ok (.putfield 10, 3) := by decide +kernel
theorem dX0_init_15 : decode cX0_init 15 = .ok (.aload_n 0, 1) := by decide +kernel
theorem dX0_init_16 : decode cX0_init 16 = .ok (.iconst 0, 1) := by decide +kernel
theorem dX0_init_17 : decode cX0_init 17 = .ok (.putfield 16, 3) := by decide +kernel
theorem dX0_init_20 : decode cX0_init 20 = .ok (.aload_n 0, 1) := by decide +kernel
theorem dX0_init_21 : decode cX0_init 21 = .ok (.iload_n 1, 1) := by decide +kernel
theorem dX0_init_22 : decode cX0_init 22 = .ok (.putfield 20, 3) := by decide +kernel
theorem dX0_init_25 : decode cX0_init 25 = .ok (.return_, 1) := by decide +kernel
theorem dX3_init_0 : decode cX3_init 0 = .ok (.aload_n 0, 1) := by decide +kernel
theorem dX3_init_1 : decode cX3_init 1 = .ok (.invokespecial 1, 3) := by decide +kernel
theorem dX3_init_4 : decode cX3_init 4 = .ok (.aload_n 0, 1) := by decide +kernel
theorem dX3_init_5 : decode cX3_init 5 = .ok (.iconst 0, 1) := by decide +kernel
theorem dX3_init_6 : decode cX3_init 6 = .ok (.putfield 7, 3) := by decide +kernel
theorem dX3_init_9 : decode cX3_init 9 = .ok (.aload_n 0, 1) := by decide +kernel
theorem dX3_init_10 : decode cX3_init 10 = .ok (.iload_n 1, 1) := by decide +kernel
theorem dX3_init_11 : decode cX3_init 11 = .ok (.putfield 13, 3) := by decide +kernel
theorem dX3_init_14 : decode cX3_init 14 = .ok (.aload_n 0, 1) := by decide +kernel
theorem dX3_init_15 : decode cX3_init 15 = .ok (.iload_n 2, 1) := by decide +kernel
theorem dX3_init_16 : decode cX3_init 16 = .ok (.putfield 17, 3) := by decide +kernel
theorem dX3_init_19 : decode cX3_init 19 = .ok (.aload_n 0, 1) := by decide +kernel
theorem dX3_init_20 : decode cX3_init 20 = .ok (.iload_n 3, 1) := by decide +kernel
theorem dX3_init_21 : decode cX3_init 21 = .ok (.putfield 20, 3) := by decide +kernel
theorem dX3_init_24 : decode cX3_init 24 = .ok (.aload_n 0, 1) := by decide +kernel
theorem dX3_init_25 : decode cX3_init 25 = .ok (.aload 4, 2) := by decide +kernel
theorem dX3_init_27 : decode cX3_init 27 = .ok (.putfield 23, 3) := by decide +kernel
theorem dX3_init_30 : decode cX3_init 30 = .ok (.return_, 1) := by decide +kernel
theorem dX3_partAt_0 : decode cX3_partAt 0 = .ok (.iload_n 1, 1) := by decide +kernel
theorem dX3_partAt_1 : decode cX3_partAt 1 = .ok (.ifCond .lt 14, 3) := by decide +kernel
theorem dX3_partAt_4 : decode cX3_partAt 4 = .ok (.iload_n 1, 1) := by decide +kernel
theorem dX3_partAt_5 : decode cX3_partAt 5 = .ok (.aload_n 0, 1) := by decide +kernel
theorem dX3_partAt_6 : decode cX3_partAt 6 = .ok (.getfield 23, 3) := by decide +kernel
theorem dX3_partAt_9 : decode cX3_partAt 9 = .ok (.invokevirtual 27, 3) := by decide +kernel
theorem dX3_partAt_12 : decode cX3_partAt 12 = .ok (.if_icmp .lt 13, 3) := by decide +kernel
theorem dX3_partAt_15 : decode cX3_partAt 15 = .ok (.new 33, 3) := by decide +kernel
theorem dX3_partAt_18 : decode cX3_partAt 18 = .ok (.dup, 1) := by decide +kernel
theorem dX3_partAt_19 : decode cX3_partAt 19 = .ok (.ldc 35, 2) := by decide +kernel
theorem dX3_partAt_21 : decode cX3_partAt 21 = .ok (.invokespecial 37, 3) := by decide +kernel
theorem dX3_partAt_24 : decode cX3_partAt 24 = .ok (.athrow, 1) := by decide +kernel
theorem dX3_partAt_25 : decode cX3_partAt 25 = .ok (.aload_n 0, 1) := by decide +kernel
theorem dX3_partAt_26 : decode cX3_partAt 26 = .ok (.getfield 23, 3) := by decide +kernel
theorem dX3_partAt_29 : decode cX3_partAt 29 = .ok (.iload_n 1, 1) := by decide +kernel
theorem dX3_partAt_30 : decode cX3_partAt 30 = .ok (.invokevirtual 40, 3) := by decide +kernel
theorem dX3_partAt_33 : decode cX3_partAt 33 = .ok (.checkcast 44, 3) := by decide +kernel
theorem dX3_partAt_36 : decode cX3_partAt 36 = .ok (.areturn, 1) := by decide +kernel
theorem dX3_uncutParts_0 : decode cX3_uncutParts 0 = .ok (.iconst 0, 1) := by decide +kernel
theorem dX3_uncutParts_1 : decode cX3_uncutParts 1 = .ok (.istore_n 1, 1) := by decide +kernel
theorem dX3_uncutParts_2 : decode cX3_uncutParts 2 = .ok (.iconst 0, 1) := by decide +kernel
theorem dX3_uncutParts_3 : decode cX3_uncutParts 3 = .ok (.istore_n 2, 1) := by decide +kernel
theorem dX3_uncutParts_4 : decode cX3_uncutParts 4 = .ok (.iload_n 2, 1) := by decide +kernel
theorem dX3_uncutParts_5 : decode cX3_uncutParts 5 = .ok (.aload_n 0, 1) := by decide +kernel
theorem dX3_uncutParts_6 : decode cX3_uncutParts 6 = .ok (.getfield 23, 3) := by decide +kernel
theorem dX3_uncutParts_9 : decode cX3_uncutParts 9 = .ok (.invokevirtual 27, 3) := by decide +kernel
theorem dX3_uncutParts_12 : decode cX3_uncutParts 12 = .ok (.if_icmp .ge 29, 3) := by decide +kernel
theorem dX3_uncutParts_15 : decode cX3_uncutParts 15 = .ok (.aload_n 0, 1) := by decide +kernel
theorem dX3_uncutParts_16 : decode cX3_uncutParts 16 = .ok (.getfield 23, 3) := by decide +kernel
theorem dX3_uncutParts_19 : decode cX3_uncutParts 19 = .ok (.iload_n 2, 1) := by decide +kernel
theorem dX3_uncutParts_20 : decode cX3_uncutParts 20 = .ok (.invokevirtual 40, 3) := by decide +kernel
theorem dX3_uncutParts_23 : decode cX3_uncutParts 23 = .ok (.checkcast 44, 3) := by decide +kernel
theorem dX3_uncutParts_26 : decode cX3_uncutParts 26 = .ok (.getfield 46, 3) := by decide +kernel
theorem dX3_uncutParts_29 : decode cX3_uncutParts 29 = .ok (.ifCond .ne 6, 3) := by decide +kernel
theorem dX3_uncutParts_32 : decode cX3_uncutParts 32 = .ok (.iinc 1 1, 3) := by decide +kernel
theorem dX3_uncutParts_35 : decode cX3_uncutParts 35 = .ok (.iinc 2 1, 3) := by decide +kernel
theorem dX3_uncutParts_38 : decode cX3_uncutParts 38 = .ok (.goto (-34), 3) := by decide +kernel
theorem dX3_uncutParts_41 : decode cX3_uncutParts 41 = .ok (.iload_n 1, 1) := by decide +kernel
theorem dX3_uncutParts_42 : decode cX3_uncutParts 42 = .ok (.ireturn, 1) := by decide +kernel
theorem dX3_uncutSeconds_0 : decode cX3_uncutSeconds 0 = .ok (.iconst 0, 1) := by decide +kernel
theorem dX3_uncutSeconds_1 : decode cX3_uncutSeconds 1 = .ok (.istore_n 1, 1) := by decide +kernel
theorem dX3_uncutSeconds_2 : decode cX3_uncutSeconds 2 = .ok (.iconst 0, 1) := by decide +kernel
theorem dX3_uncutSeconds_3 : decode cX3_uncutSeconds 3 = .ok (.istore_n 2, 1) := by decide +kernel
theorem dX3_uncutSeconds_4 : decode cX3_uncutSeconds 4 = .ok (.iload_n 2, 1) := by decide +kernel
theorem dX3_uncutSeconds_5 : decode cX3_uncutSeconds 5 = .ok (.aload_n 0, 1) := by decide +kernel
theorem dX3_uncutSeconds_6 : decode cX3_uncutSeconds 6 = .ok (.getfield 23, 3) := by decide +kernel
theorem dX3_uncutSeconds_9 : decode cX3_uncutSeconds 9 = .ok (.invokevirtual 27, 3) := by decide +kernel
theorem dX3_uncutSeconds_12 : decode cX3_uncutSeconds 12 = .ok (.if_icmp .ge 35, 3) := by decide +kernel
theorem dX3_uncutSeconds_15 : decode cX3_uncutSeconds 15 = .ok (.aload_n 0, 1) := by decide +kernel
theorem dX3_uncutSeconds_16 : decode cX3_uncutSeconds 16 = .ok (.getfield 23, 3) := by decide +kernel
theorem dX3_uncutSeconds_19 : decode cX3_uncutSeconds 19 = .ok (.iload_n 2, 1) := by decide +kernel
theorem dX3_uncutSeconds_20 : decode cX3_uncutSeconds 20 = .ok (.invokevirtual 40, 3) := by decide +kernel
theorem dX3_uncutSeconds_23 : decode cX3_uncutSeconds 23 = .ok (.checkcast 44, 3) := by decide +kernel
theorem dX3_uncutSeconds_26 : decode cX3_uncutSeconds 26 = .ok (.astore_n 3, 1) := by decide +kernel
theorem dX3_uncutSeconds_27 : decode cX3_uncutSeconds 27 = .ok (.aload_n 3, 1) := by decide +kernel
theorem dX3_uncutSeconds_28 : decode cX3_uncutSeconds 28 = .ok (.getfield 46, 3) := by decide +kernel
theorem dX3_uncutSeconds_31 : decode cX3_uncutSeconds 31 = .ok (.ifCond .ne 10, 3) := by decide +kernel
theorem dX3_uncutSeconds_34 : decode cX3_uncutSeconds 34 = .ok (.iload_n 1, 1) := by decide +kernel
theorem dX3_uncutSeconds_35 : decode cX3_uncutSeconds 35 = .ok (.aload_n 3, 1) := by decide +kernel
theorem dX3_uncutSeconds_36 : decode cX3_uncutSeconds 36 = .ok (.getfield 49, 3) := by decide +kernel
theorem dX3_uncutSeconds_39 : decode cX3_uncutSeconds 39 = .ok (.iadd, 1) := by decide +kernel
theorem dX3_uncutSeconds_40 : decode cX3_uncutSeconds 40 = .ok (.istore_n 1, 1) := by decide +kernel
theorem dX3_uncutSeconds_41 : decode cX3_uncutSeconds 41 = .ok (.iinc 2 1, 3) := by decide +kernel
theorem dX3_uncutSeconds_44 : decode cX3_uncutSeconds 44 = .ok (.goto (-40), 3) := by decide +kernel
theorem dX3_uncutSeconds_47 : decode cX3_uncutSeconds 47 = .ok (.iload_n 1, 1) := by decide +kernel
theorem dX3_uncutSeconds_48 : decode cX3_uncutSeconds 48 = .ok (.ireturn, 1) := by decide +kernel
theorem dX4_init_0 : decode cX4_init 0 = .ok (.aload_n 0, 1) := by decide +kernel
theorem dX4_init_1 : decode cX4_init 1 = .ok (.invokespecial 1, 3) := by decide +kernel
theorem dX4_init_4 : decode cX4_init 4 = .ok (.aload_n 0, 1) := by decide +kernel
theorem dX4_init_5 : decode cX4_init 5 = .ok (.iconst 0, 1) := by decide +kernel
theorem dX4_init_6 : decode cX4_init 6 = .ok (.putfield 7, 3) := by decide +kernel
theorem dX4_init_9 : decode cX4_init 9 = .ok (.aload_n 0, 1) := by decide +kernel
theorem dX4_init_10 : decode cX4_init 10 = .ok (.iconst 0, 1) := by decide +kernel
theorem dX4_init_11 : decode cX4_init 11 = .ok (.putfield 13, 3) := by decide +kernel
theorem dX4_init_14 : decode cX4_init 14 = .ok (.aload_n 0, 1) := by decide +kernel
theorem dX4_init_15 : decode cX4_init 15 = .ok (.iload_n 1, 1) := by decide +kernel
theorem dX4_init_16 : decode cX4_init 16 = .ok (.putfield 17, 3) := by decide +kernel
theorem dX4_init_19 : decode cX4_init 19 = .ok (.aload_n 0, 1) := by decide +kernel
theorem dX4_init_20 : decode cX4_init 20 = .ok (.iload_n 2, 1) := by decide +kernel
theorem dX4_init_21 : decode cX4_init 21 = .ok (.putfield 20, 3) := by decide +kernel
theorem dX4_init_24 : decode cX4_init 24 = .ok (.aload_n 0, 1) := by decide +kernel
theorem dX4_init_25 : decode cX4_init 25 = .ok (.iload_n 3, 1) := by decide +kernel
theorem dX4_init_26 : decode cX4_init 26 = .ok (.putfield 23, 3) := by decide +kernel
theorem dX4_init_29 : decode cX4_init 29 = .ok (.return_, 1) := by decide +kernel
theorem dJ9_max_7cf53_0 : decode cJ9_max_7cf53 0 = .ok (.iload_n 0, 1) := by decide +kernel
theorem dJ9_max_7cf53_1 : decode cJ9_max_7cf53 1 = .ok (.iload_n 1, 1) := by decide +kernel
theorem dJ9_max_7cf53_2 : decode cJ9_max_7cf53 2 = .ok (.if_icmp .lt 7, 3) := by decide +kernel
theorem dJ9_max_7cf53_5 : decode cJ9_max_7cf53 5 = .ok (.iload_n 0, 1) := by decide +kernel
theorem dJ9_max_7cf53_6 : decode cJ9_max_7cf53 6 = .ok (.goto 4, 3) := by decide +kernel
theorem dJ9_max_7cf53_9 : decode cJ9_max_7cf53 9 = .ok (.iload_n 1, 1) := by decide +kernel
theorem dJ9_max_7cf53_10 : decode cJ9_max_7cf53 10 = .ok (.ireturn, 1) := by decide +kernel
theorem dJ9_min_7cf53_0 : decode cJ9_min_7cf53 0 = .ok (.iload_n 0, 1) := by decide +kernel
theorem dJ9_min_7cf53_1 : decode cJ9_min_7cf53 1 = .ok (.iload_n 1, 1) := by decide +kernel
theorem dJ9_min_7cf53_2 : decode cJ9_min_7cf53 2 = .ok (.if_icmp .gt 7, 3) := by decide +kernel
theorem dJ9_min_7cf53_5 : decode cJ9_min_7cf53 5 = .ok (.iload_n 0, 1) := by decide +kernel
theorem dJ9_min_7cf53_6 : decode cJ9_min_7cf53 6 = .ok (.goto 4, 3) := by decide +kernel
theorem dJ9_min_7cf53_9 : decode cJ9_min_7cf53 9 = .ok (.iload_n 1, 1) := by decide +kernel
theorem dJ9_min_7cf53_10 : decode cJ9_min_7cf53 10 = .ok (.ireturn, 1) := by decide +kernel
theorem dJxa1e45_init_da8c8_0 : decode cJxa1e45_init_da8c8 0 = .ok (.aload_n 0, 1) := by decide +kernel
theorem dJxa1e45_init_da8c8_1 : decode cJxa1e45_init_da8c8 1 = .ok (.invokespecial 1, 3) := by decide +kernel
theorem dJxa1e45_init_da8c8_4 : decode cJxa1e45_init_da8c8 4 = .ok (.return_, 1) := by decide +kernel
theorem dJxc12de_init_da8c8_0 : decode cJxc12de_init_da8c8 0 = .ok (.aload_n 0, 1) := by decide +kernel
theorem dJxc12de_init_da8c8_1 : decode cJxc12de_init_da8c8 1 = .ok (.invokespecial 1, 3) := by decide +kernel
theorem dJxc12de_init_da8c8_4 : decode cJxc12de_init_da8c8 4 = .ok (.aload_n 0, 1) := by decide +kernel
theorem dJxc12de_init_da8c8_5 : decode cJxc12de_init_da8c8 5 = .ok (.iconst 0, 1) := by decide +kernel
theorem dJxc12de_init_da8c8_6 : decode cJxc12de_init_da8c8 6 = .ok (.putfield 7, 3) := by decide +kernel
theorem dJxc12de_init_da8c8_9 : decode cJxc12de_init_da8c8 9 = .ok (.return_, 1) := by decide +kernel
theorem dJx4a65c_init_da8c8_0 : decode cJx4a65c_init_da8c8 0 = .ok (.aload_n 0, 1) := by decide +kernel
theorem dJx4a65c_init_da8c8_1 : decode cJx4a65c_init_da8c8 1 = .ok (.invokespecial 1, 3) := by decide +kernel
theorem dJx4a65c_init_da8c8_4 : decode cJx4a65c_init_da8c8 4 = .ok (.aload_n 0, 1) := by decide +kernel
theorem dJx4a65c_init_da8c8_5 : decode cJx4a65c_init_da8c8 5 = .ok (.getstatic 39, 3) := by decide +kernel
theorem dJx4a65c_init_da8c8_8 : decode cJx4a65c_init_da8c8 8 = .ok (.putfield 9, 3) := by decide +kernel
theorem dJx4a65c_init_da8c8_11 : decode cJx4a65c_init_da8c8 11 = .ok (.return_, 1) := by decide +kernel
theorem dJx4a65c_grow_92f84_0 : decode cJx4a65c_grow_92f84 0 = .ok (.aload_n 0, 1) := by decide +kernel
theorem dJx4a65c_grow_92f84_1 : decode cJx4a65c_grow_92f84 1 = .ok (.getfield 9, 3) := by decide +kernel
theorem dJx4a65c_grow_92f84_4 : decode cJx4a65c_grow_92f84 4 = .ok (.arraylength, 1) := by decide +kernel
theorem dJx4a65c_grow_92f84_5 : decode cJx4a65c_grow_92f84 5 = .ok (.istore_n 2, 1) := by decide +kernel
theorem dJx4a65c_grow_92f84_6 : decode cJx4a65c_grow_92f84 6 = .ok (.iload_n 2, 1) := by decide +kernel
theorem dJx4a65c_grow_92f84_7 : decode cJx4a65c_grow_92f84 7 = .ok (.ifCond .gt 13, 3) := by decide +kernel
theorem dJx4a65c_grow_92f84_10 : decode cJx4a65c_grow_92f84 10 = .ok (.aload_n 0, 1) := by decide +kernel
theorem dJx4a65c_grow_92f84_11 : decode cJx4a65c_grow_92f84 11 = .ok (.getfield 9, 3) := by decide +kernel
theorem dJx4a65c_grow_92f84_14 : decode cJx4a65c_grow_92f84 14 = .ok (.getstatic 39, 3) := by decide +kernel
theorem dJx4a65c_grow_92f84_17 : decode cJx4a65c_grow_92f84 17 = .ok (.if_acmp .eq 28, 3) := by decide +kernel
theorem dJx4a65c_grow_92f84_20 : decode cJx4a65c_grow_92f84 20 = .ok (.iload_n 2, 1) := by decide +kernel
theorem dJx4a65c_grow_92f84_21 : decode cJx4a65c_grow_92f84 21 = .ok (.iload_n 1, 1) := by decide +kernel
theorem dJx4a65c_grow_92f84_22 : decode cJx4a65c_grow_92f84 22 = .ok (.iload_n 2, 1) := by decide +kernel
theorem dJx4a65c_grow_92f84_23 : decode cJx4a65c_grow_92f84 23 = .ok (.isub, 1) := by decide +kernel
theorem dJx4a65c_grow_92f84_24 : decode cJx4a65c_grow_92f84 24 = .ok (.iload_n 2, 1) := by decide +kernel
theorem dJx4a65c_grow_92f84_25 : decode cJx4a65c_grow_92f84 25 = .ok (.iconst 1, 1) := by decide +kernel
theorem dJx4a65c_grow_92f84_26 : decode cJx4a65c_grow_92f84 26 = .ok (.ishr, 1) := by decide +kernel
theorem dJx4a65c_grow_92f84_27 : decode cJx4a65c_grow_92f84 27 = .ok (.invokestatic 73, 3) := by decide +kernel
theorem dJx4a65c_grow_92f84_30 : decode cJx4a65c_grow_92f84 30 = .ok (.istore_n 3, 1) := by decide +kernel
theorem dJx4a65c_grow_92f84_31 : decode cJx4a65c_grow_92f84 31 = .ok (.aload_n 0, 1) := by decide +kernel
theorem dJx4a65c_grow_92f84_32 : decode cJx4a65c_grow_92f84 32 = .ok (.aload_n 0, 1) := by decide +kernel
theorem dJx4a65c_grow_92f84_33 : decode cJx4a65c_grow_92f84 33 = .ok (.getfield 9, 3) := by decide +kernel
theorem dJx4a65c_grow_92f84_36 : decode cJx4a65c_grow_92f84 36 = .ok (.iload_n 3, 1) := by decide +kernel
theorem dJx4a65c_grow_92f84_37 : decode cJx4a65c_grow_92f84 37 = .ok (.invokestatic 66, 3) := by decide +kernel
theorem dJx4a65c_grow_92f84_40 : decode cJx4a65c_grow_92f84 40 = .ok (.dup_x1, 1) := by decide +kernel
theorem dJx4a65c_grow_92f84_41 : decode cJx4a65c_grow_92f84 41 = .ok (.putfield 9, 3) := by decide +kernel
theorem dJx4a65c_grow_92f84_44 : decode cJx4a65c_grow_92f84 44 = .ok (.areturn, 1) := by decide +kernel
theorem dJx4a65c_grow_92f84_45 : decode cJx4a65c_grow_92f84 45 = .ok (.aload_n 0, 1) := by decide +kernel
theorem dJx4a65c_grow_92f84_46 : decode cJx4a65c_grow_92f84 46 = .ok (.bipush 10, 2) := by decide +kernel
theorem dJx4a65c_grow_92f84_48 : decode cJx4a65c_grow_92f84 48 = .ok (.iload_n 1, 1) := by decide +kernel
theorem dJx4a65c_grow_92f84_49 : decode cJx4a65c_grow_92f84 49 = .ok (.invokestatic 79, 3) := by decide +kernel
theorem dJx4a65c_grow_92f84_52 : decode cJx4a65c_grow_92f84 52 = .ok (.anewarray 7, 3) := by decide +kernel
theorem dJx4a65c_grow_92f84_55 : decode cJx4a65c_grow_92f84 55 = .ok (.dup_x1, 1) := by decide +kernel
theorem dJx4a65c_grow_92f84_56 : decode cJx4a65c_grow_92f84 56 = .ok (.putfield 9, 3) := by decide +kernel
theorem dJx4a65c_grow_92f84_59 : decode cJx4a65c_grow_92f84 59 = .ok (.areturn, 1) := by decide +kernel
theorem dJx4a65c_grow_d5877_0 : decode cJx4a65c_grow_d5877 0 = .ok (.aload_n 0, 1) := by decide +kernel
theorem dJx4a65c_grow_d5877_1 : decode cJx4a65c_grow_d5877 1 = .ok (.aload_n 0, 1) := by decide +kernel
theorem dJx4a65c_grow_d5877_2 : decode cJx4a65c_grow_d5877 2 = .ok (.getfield 48, 3) := by decide +kernel
theorem dJx4a65c_grow_d5877_5 : decode cJx4a65c_grow_d5877 5 = .ok (.iconst 1, 1) := by decide +kernel
theorem dJx4a65c_grow_d5877_6 : decode cJx4a65c_grow_d5877 6 = .ok (.iadd, 1) := by decide +kernel
theorem dJx4a65c_grow_d5877_7 : decode cJx4a65c_grow_d5877 7 = .ok (.invokevirtual 69, 3) := by decide +kernel
theorem dJx4a65c_grow_d5877_10 : decode cJx4a65c_grow_d5877 10 = .ok (.areturn, 1) := by decide +kernel
theorem dJx4a65c_size_8abf5_0 : decode cJx4a65c_size_8abf5 0 = .ok (.aload_n 0, 1) := by decide +kernel
theorem dJx4a65c_size_8abf5_1 : decode cJx4a65c_size_8abf5 1 = .ok (.getfield 48, 3) := by decide +kernel
theorem dJx4a65c_size_8abf5_4 : decode cJx4a65c_size_8abf5 4 = .ok (.ireturn, 1) := by decide +kernel
theorem dJx4a65c_elementData_915e3_0 : decode cJx4a65c_elementData_915e3 0 = .ok (.aload_n 0, 1) := by decide +kernel
theorem dJx4a65c_elementData_915e3_1 : decode cJx4a65c_elementData_915e3 1 = .ok (.getfield 9, 3) := by decide +kernel
theorem dJx4a65c_elementData_915e3_4 : decode cJx4a65c_elementData_915e3 4 = .ok (.iload_n 1, 1) := by decide +kernel
theorem dJx4a65c_elementData_915e3_5 : decode cJx4a65c_elementData_915e3 5 = .ok (.aaload, 1) := by decide +kernel
theorem dJx4a65c_elementData_915e3_6 : decode cJx4a65c_elementData_915e3 6 = .ok (.areturn, 1) := by decide +kernel
theorem dJx4a65c_get_915e3_0 : decode cJx4a65c_get_915e3 0 = .ok (.iload_n 1, 1) := by decide +kernel
theorem dJx4a65c_get_915e3_1 : decode cJx4a65c_get_915e3 1 = .ok (.aload_n 0, 1) := by decide +kernel
theorem dJx4a65c_get_915e3_2 : decode cJx4a65c_get_915e3 2 = .ok (.getfield 48, 3) := by decide +kernel
theorem dJx4a65c_get_915e3_5 : decode cJx4a65c_get_915e3 5 = .ok (.invokestatic 118, 3) := by decide +kernel
theorem dJx4a65c_get_915e3_8 : decode cJx4a65c_get_915e3 8 = .ok (.pop, 1) := by decide +kernel
theorem dJx4a65c_get_915e3_9 : decode cJx4a65c_get_915e3 9 = .ok (.aload_n 0, 1) := by decide +kernel
theorem dJx4a65c_get_915e3_10 : decode cJx4a65c_get_915e3 10 = .ok (.iload_n 1, 1) := by decide +kernel
theorem dJx4a65c_get_915e3_11 : decode cJx4a65c_get_915e3 11 = .ok (.invokevirtual 123, 3) := by decide +kernel
theorem dJx4a65c_get_915e3_14 : decode cJx4a65c_get_915e3 14 = .ok (.areturn, 1) := by decide +kernel
theorem dJx4a65c_add_72be8_0 : decode cJx4a65c_add_72be8 0 = .ok (.iload_n 3, 1) := by decide +kernel
theorem dJx4a65c_add_72be8_1 : decode cJx4a65c_add_72be8 1 = .ok (.aload_n 2, 1) := by decide +kernel
theorem dJx4a65c_add_72be8_2 : decode cJx4a65c_add_72be8 2 = .ok (.arraylength, 1) := by decide +kernel
theorem dJx4a65c_add_72be8_3 : decode cJx4a65c_add_72be8 3 = .ok (.if_icmp .ne 8, 3) := by decide +kernel
theorem dJx4a65c_add_72be8_6 : decode cJx4a65c_add_72be8 6 = .ok (.aload_n 0, 1) := by decide +kernel
theorem dJx4a65c_add_72be8_7 : decode cJx4a65c_add_72be8 7 = .ok (.invokevirtual 129, 3) := by decide +kernel
theorem dJx4a65c_add_72be8_10 : decode cJx4a65c_add_72be8 10 = .ok (.astore_n 2, 1) := by decide +kernel
theorem dJx4a65c_add_72be8_11 : decode cJx4a65c_add_72be8 11 = .ok (.aload_n 2, 1) := by decide +kernel
theorem dJx4a65c_add_72be8_12 : decode cJx4a65c_add_72be8 12 = .ok (.iload_n 3, 1) := by decide +kernel
theorem dJx4a65c_add_72be8_13 : decode cJx4a65c_add_72be8 13 = .ok (.aload_n 1, 1) := by decide +kernel
theorem dJx4a65c_add_72be8_14 : decode cJx4a65c_add_72be8 14 = .ok (.aastore, 1) := by decide +kernel
theorem dJx4a65c_add_72be8_15 : decode cJx4a65c_add_72be8 15 = .ok (.aload_n 0, 1) := by decide +kernel
theorem dJx4a65c_add_72be8_16 : decode cJx4a65c_add_72be8 16 = .ok (.iload_n 3, 1) := by decide +kernel
theorem dJx4a65c_add_72be8_17 : decode cJx4a65c_add_72be8 17 = .ok (.iconst 1, 1) := by decide +kernel
theorem dJx4a65c_add_72be8_18 : decode cJx4a65c_add_72be8 18 = .ok (.iadd, 1) := by decide +kernel
theorem dJx4a65c_add_72be8_19 : decode cJx4a65c_add_72be8 19 = .ok (.putfield 48, 3) := by decide +kernel
theorem dJx4a65c_add_72be8_22 : decode cJx4a65c_add_72be8 22 = .ok (.return_, 1) := by decide +kernel
theorem dJx4a65c_add_9ea2d_0 : decode cJx4a65c_add_9ea2d 0 = .ok (.aload_n 0, 1) := by decide +kernel
theorem dJx4a65c_add_9ea2d_1 : decode cJx4a65c_add_9ea2d 1 = .ok (.dup, 1) := by decide +kernel
theorem dJx4a65c_add_9ea2d_2 : decode cJx4a65c_add_9ea2d 2 = .ok (.getfield 63, 3) := by decide +kernel
theorem dJx4a65c_add_9ea2d_5 : decode cJx4a65c_add_9ea2d 5 = .ok (.iconst 1, 1) := by decide +kernel
theorem dJx4a65c_add_9ea2d_6 : decode cJx4a65c_add_9ea2d 6 = .ok (.iadd, 1) := by decide +kernel
theorem dJx4a65c_add_9ea2d_7 : decode cJx4a65c_add_9ea2d 7 = .ok (.putfield 63, 3) := by decide +kernel
theorem dJx4a65c_add_9ea2d_10 : decode cJx4a65c_add_9ea2d 10 = .ok (.aload_n 0, 1) := by decide +kernel
theorem dJx4a65c_add_9ea2d_11 : decode cJx4a65c_add_9ea2d 11 = .ok (.aload_n 1, 1) := by decide +kernel
theorem dJx4a65c_add_9ea2d_12 : decode cJx4a65c_add_9ea2d 12 = .ok (.aload_n 0, 1) := by decide +kernel
theorem dJx4a65c_add_9ea2d_13 : decode cJx4a65c_add_9ea2d 13 = .ok (.getfield 9, 3) := by decide +kernel
theorem dJx4a65c_add_9ea2d_16 : decode cJx4a65c_add_9ea2d 16 = .ok (.aload_n 0, 1) := by decide +kernel
theorem dJx4a65c_add_9ea2d_17 : decode cJx4a65c_add_9ea2d 17 = .ok (.getfield 48, 3) := by decide +kernel
theorem dJx4a65c_add_9ea2d_20 : decode cJx4a65c_add_9ea2d 20 = .ok (.invokevirtual 131, 3) := by decide +kernel
theorem dJx4a65c_add_9ea2d_23 : decode cJx4a65c_add_9ea2d 23 = .ok (.iconst 1, 1) := by decide +kernel
theorem dJx4a65c_add_9ea2d_24 : decode cJx4a65c_add_9ea2d 24 = .ok (.ireturn, 1) := by decide +kernel
theorem dJx4a65c_clear_da8c8_0 : decode cJx4a65c_clear_da8c8 0 = .ok (.aload_n 0, 1) := by decide +kernel
theorem dJx4a65c_clear_da8c8_1 : decode cJx4a65c_clear_da8c8 1 = .ok (.dup, 1) := by decide +kernel
theorem dJx4a65c_clear_da8c8_2 : decode cJx4a65c_clear_da8c8 2 = .ok (.getfield 63, 3) := by decide +kernel
theorem dJx4a65c_clear_da8c8_5 : decode cJx4a65c_clear_da8c8 5 = .ok (.iconst 1, 1) := by decide +kernel
theorem dJx4a65c_clear_da8c8_6 : decode cJx4a65c_clear_da8c8 6 = .ok (.iadd, 1) := by decide +kernel
theorem dJx4a65c_clear_da8c8_7 : decode cJx4a65c_clear_da8c8 7 = .ok (.putfield 63, 3) := by decide +kernel
theorem dJx4a65c_clear_da8c8_10 : decode cJx4a65c_clear_da8c8 10 = .ok (.aload_n 0, 1) := by decide +kernel
theorem dJx4a65c_clear_da8c8_11 : decode cJx4a65c_clear_da8c8 11 = .ok (.getfield 9, 3) := by decide +kernel
theorem dJx4a65c_clear_da8c8_14 : decode cJx4a65c_clear_da8c8 14 = .ok (.astore_n 1, 1) := by decide +kernel
theorem dJx4a65c_clear_da8c8_15 : decode cJx4a65c_clear_da8c8 15 = .ok (.aload_n 0, 1) := by decide +kernel
theorem dJx4a65c_clear_da8c8_16 : decode cJx4a65c_clear_da8c8 16 = .ok (.getfield 48, 3) := by decide +kernel
theorem dJx4a65c_clear_da8c8_19 : decode cJx4a65c_clear_da8c8 19 = .ok (.istore_n 2, 1) := by decide +kernel
theorem dJx4a65c_clear_da8c8_20 : decode cJx4a65c_clear_da8c8 20 = .ok (.aload_n 0, 1) := by decide +kernel
theorem dJx4a65c_clear_da8c8_21 : decode cJx4a65c_clear_da8c8 21 = .ok (.iconst 0, 1) := by decide +kernel
theorem dJx4a65c_clear_da8c8_22 : decode cJx4a65c_clear_da8c8 22 = .ok (.dup_x1, 1) := by decide +kernel
theorem dJx4a65c_clear_da8c8_23 : decode cJx4a65c_clear_da8c8 23 = .ok (.putfield 48, 3) := by decide +kernel
theorem dJx4a65c_clear_da8c8_26 : decode cJx4a65c_clear_da8c8 26 = .ok (.istore_n 3, 1) := by decide +kernel
theorem dJx4a65c_clear_da8c8_27 : decode cJx4a65c_clear_da8c8 27 = .ok (.iload_n 3, 1) := by decide +kernel
theorem dJx4a65c_clear_da8c8_28 : decode cJx4a65c_clear_da8c8 28 = .ok (.iload_n 2, 1) := by decide +kernel
theorem dJx4a65c_clear_da8c8_29 : decode cJx4a65c_clear_da8c8 29 = .ok (.if_icmp .ge 13, 3) := by decide +kernel
theorem dJx4a65c_clear_da8c8_32 : decode cJx4a65c_clear_da8c8 32 = .ok (.aload_n 1, 1) := by decide +kernel
theorem dJx4a65c_clear_da8c8_33 : decode cJx4a65c_clear_da8c8 33 = .ok (.iload_n 3, 1) := by decide +kernel
theorem dJx4a65c_clear_da8c8_34 : decode cJx4a65c_clear_da8c8 34 = .ok (.aconst_null, 1) := by decide +kernel
theorem dJx4a65c_clear_da8c8_35 : decode cJx4a65c_clear_da8c8 35 = .ok (.aastore, 1) := by decide +kernel
theorem dJx4a65c_clear_da8c8_36 : decode cJx4a65c_clear_da8c8 36 = .ok (.iinc 3 1, 3) := by decide +kernel
theorem dJx4a65c_clear_da8c8_39 : decode cJx4a65c_clear_da8c8 39 = .ok (.goto (-12), 3) := by decide +kernel
theorem dJx4a65c_clear_da8c8_42 : decode cJx4a65c_clear_da8c8 42 = .ok (.return_, 1) := by decide +kernel
theorem dJ7_copyOf_1904c_0 : decode cJ7_copyOf_1904c 0 = .ok (.aload_n 0, 1) := by decide +kernel
theorem dJ7_copyOf_1904c_1 : decode cJ7_copyOf_1904c 1 = .ok (.iload_n 1, 1) := by decide +kernel
theorem dJ7_copyOf_1904c_2 : decode cJ7_copyOf_1904c 2 = .ok (.aload_n 0, 1) := by decide +kernel
theorem dJ7_copyOf_1904c_3 : decode cJ7_copyOf_1904c 3 = .ok (.invokevirtual 86, 3) := by decide +kernel
theorem dJ7_copyOf_1904c_6 : decode cJ7_copyOf_1904c 6 = .ok (.invokestatic 300, 3) := by decide +kernel
theorem dJ7_copyOf_1904c_9 : decode cJ7_copyOf_1904c 9 = .ok (.areturn, 1) := by decide +kernel
theorem dJ7_copyOf_6403c_0 : decode cJ7_copyOf_6403c 0 = .ok (.aload_n 2, 1) := by decide +kernel
theorem dJ7_copyOf_6403c_1 : decode cJ7_copyOf_6403c 1 = .ok (.ldc 110, 2) := by decide +kernel
theorem dJ7_copyOf_6403c_3 : decode cJ7_copyOf_6403c 3 = .ok (.if_acmp .ne 10, 3) := by decide +kernel
theorem dJ7_copyOf_6403c_6 : decode cJ7_copyOf_6403c 6 = .ok (.iload_n 1, 1) := by decide +kernel
theorem dJ7_copyOf_6403c_7 : decode cJ7_copyOf_6403c 7 = .ok (.anewarray 2, 3) := by decide +kernel
theorem dJ7_copyOf_6403c_10 : decode cJ7_copyOf_6403c 10 = .ok (.goto 14, 3) := by decide +kernel
theorem dJ7_copyOf_6403c_13 : decode cJ7_copyOf_6403c 13 = .ok (.aload_n 2, 1) := by decide +kernel
theorem dJ7_copyOf_6403c_14 : decode cJ7_copyOf_6403c 14 = .ok (.invokevirtual 90, 3) := by decide +kernel
theorem dJ7_copyOf_6403c_17 : decode cJ7_copyOf_6403c 17 = .ok (.iload_n 1, 1) := by decide +kernel
theorem dJ7_copyOf_6403c_18 : decode cJ7_copyOf_6403c 18 = .ok (.invokestatic 95, 3) := by decide +kernel
theorem dJ7_copyOf_6403c_21 : decode cJ7_copyOf_6403c 21 = .ok (.checkcast 110, 3) := by decide +kernel
theorem dJ7_copyOf_6403c_24 : decode cJ7_copyOf_6403c 24 = .ok (.astore_n 3, 1) := by decide +kernel
theorem dJ7_copyOf_6403c_25 : decode cJ7_copyOf_6403c 25 = .ok (.aload_n 0, 1) := by decide +kernel
theorem dJ7_copyOf_6403c_26 : decode cJ7_copyOf_6403c 26 = .ok (.iconst 0, 1) := by decide +kernel
theorem dJ7_copyOf_6403c_27 : decode cJ7_copyOf_6403c 27 = .ok (.aload_n 3, 1) := by decide +kernel
theorem dJ7_copyOf_6403c_28 : decode cJ7_copyOf_6403c 28 = .ok (.iconst 0, 1) := by decide +kernel
theorem dJ7_copyOf_6403c_29 : decode cJ7_copyOf_6403c 29 = .ok (.aload_n 0, 1) := by decide +kernel
theorem dJ7_copyOf_6403c_30 : decode cJ7_copyOf_6403c 30 = .ok (.arraylength, 1) := by decide +kernel
theorem dJ7_copyOf_6403c_31 : decode cJ7_copyOf_6403c 31 = .ok (.iload_n 1, 1) := by decide +kernel
theorem dJ7_copyOf_6403c_32 : decode cJ7_copyOf_6403c 32 = .ok (.invokestatic 304, 3) := by decide +kernel
theorem dJ7_copyOf_6403c_35 : decode cJ7_copyOf_6403c 35 = .ok (.invokestatic 150, 3) := by decide +kernel
theorem dJ7_copyOf_6403c_38 : decode cJ7_copyOf_6403c 38 = .ok (.aload_n 3, 1) := by decide +kernel
theorem dJ7_copyOf_6403c_39 : decode cJ7_copyOf_6403c 39 = .ok (.areturn, 1) := by decide +kernel
theorem dJ15_checkIndex_7cf53_0 : decode cJ15_checkIndex_7cf53 0 = .ok (.iload_n 0, 1) := by decide +kernel
theorem dJ15_checkIndex_7cf53_1 : decode cJ15_checkIndex_7cf53 1 = .ok (.iload_n 1, 1) := by decide +kernel
theorem dJ15_checkIndex_7cf53_2 : decode cJ15_checkIndex_7cf53 2 = .ok (.aconst_null, 1) := by decide +kernel
theorem dJ15_checkIndex_7cf53_3 : decode cJ15_checkIndex_7cf53 3 = .ok (.invokestatic 105, 3) := by decide +kernel
theorem dJ15_checkIndex_7cf53_6 : decode cJ15_checkIndex_7cf53 6 = .ok (.ireturn, 1) := by decide +kernel
theorem dJ8_newLength_cabcc_0 : decode cJ8_newLength_cabcc 0 = .ok (.iload_n 0, 1) := by decide +kernel
theorem dJ8_newLength_cabcc_1 : decode cJ8_newLength_cabcc 1 = .ok (.iload_n 1, 1) := by decide +kernel
theorem dJ8_newLength_cabcc_2 : decode cJ8_newLength_cabcc 2 = .ok (.iload_n 2, 1) := by decide +kernel
theorem dJ8_newLength_cabcc_3 : decode cJ8_newLength_cabcc 3 = .ok (.invokestatic 194, 3) := by decide +kernel
theorem dJ8_newLength_cabcc_6 : decode cJ8_newLength_cabcc 6 = .ok (.iadd, 1) := by decide +kernel
theorem dJ8_newLength_cabcc_7 : decode cJ8_newLength_cabcc 7 = .ok (.istore_n 3, 1) := by decide +kernel
theorem dJ8_newLength_cabcc_8 : decode cJ8_newLength_cabcc 8 = .ok (.iconst 0, 1) := by decide +kernel
theorem dJ8_newLength_cabcc_9 : decode cJ8_newLength_cabcc 9 = .ok (.iload_n 3, 1) := by decide +kernel
theorem dJ8_newLength_cabcc_10 : decode cJ8_newLength_cabcc 10 = .ok (.if_icmp .ge 11, 3) := by decide +kernel
theorem dJ8_newLength_cabcc_13 : decode cJ8_newLength_cabcc 13 = .ok (.iload_n 3, 1) := by decide +kernel
theorem dJ8_newLength_cabcc_14 : decode cJ8_newLength_cabcc 14 = .ok (.ldc 200, 2) := by decide +kernel
theorem dJ8_newLength_cabcc_16 : decode cJ8_newLength_cabcc 16 = .ok (.if_icmp .gt 5, 3) := by decide +kernel
theorem dJ8_newLength_cabcc_19 : decode cJ8_newLength_cabcc 19 = .ok (.iload_n 3, 1) := by decide +kernel
theorem dJ8_newLength_cabcc_20 : decode cJ8_newLength_cabcc 20 = .ok (.ireturn, 1) := by decide +kernel
theorem dJ8_newLength_cabcc_21 : decode cJ8_newLength_cabcc 21 = .ok (.iload_n 0, 1) := by decide +kernel
theorem dJ8_newLength_cabcc_22 : decode cJ8_newLength_cabcc 22 = .ok (.iload_n 1, 1) := by decide +kernel
theorem dJ8_newLength_cabcc_23 : decode cJ8_newLength_cabcc 23 = .ok (.invokestatic 201, 3) := by decide +kernel
theorem dJ8_newLength_cabcc_26 : decode cJ8_newLength_cabcc 26 = .ok (.ireturn, 1) := by decide +kernel
theorem dJ8_hugeLength_7cf53_0 : decode cJ8_hugeLength_7cf53 0 = .ok (.iload_n 0, 1) := by decide +kernel
theorem dJ8_hugeLength_7cf53_1 : decode cJ8_hugeLength_7cf53 1 = .ok (.iload_n 1, 1) := by decide +kernel
theorem dJ8_hugeLength_7cf53_2 : decode cJ8_hugeLength_7cf53 2 = .ok (.iadd, 1) := by decide +kernel
theorem dJ8_hugeLength_7cf53_3 : decode cJ8_hugeLength_7cf53 3 = .ok (.istore_n 2, 1) := by decide +kernel
theorem dJ8_hugeLength_7cf53_4 : decode cJ8_hugeLength_7cf53 4 = .ok (.iload_n 2, 1) := by decide +kernel
theorem dJ8_hugeLength_7cf53_5 : decode cJ8_hugeLength_7cf53 5 = .ok (.ifCond .ge 44, 3) := by decide +kernel
theorem dJ8_hugeLength_7cf53_8 : decode cJ8_hugeLength_7cf53 8 = .ok (.new 204, 3) := by decide +kernel
theorem dJ8_hugeLength_7cf53_11 : decode cJ8_hugeLength_7cf53 11 = .ok (.dup, 1) := by decide +kernel
theorem dJ8_hugeLength_7cf53_12 : decode cJ8_hugeLength_7cf53 12 = .ok (.new 89, 3) := by decide +kernel
theorem dJ8_hugeLength_7cf53_15 : decode cJ8_hugeLength_7cf53 15 = .ok (.dup, 1) := by decide +kernel
theorem dJ8_hugeLength_7cf53_16 : decode cJ8_hugeLength_7cf53 16 = .ok (.invokespecial 91, 3) := by decide +kernel
theorem dJ8_hugeLength_7cf53_19 : decode cJ8_hugeLength_7cf53 19 = .ok (.ldc 206, 2) := by decide +kernel
theorem dJ8_hugeLength_7cf53_21 : decode cJ8_hugeLength_7cf53 21 = .ok (.invokevirtual 94, 3) := by decide +kernel
theorem dJ8_hugeLength_7cf53_24 : decode cJ8_hugeLength_7cf53 24 = .ok (.iload_n 0, 1) := by decide +kernel
theorem dJ8_hugeLength_7cf53_25 : decode cJ8_hugeLength_7cf53 25 = .ok (.invokevirtual 98, 3) := by decide +kernel
theorem dJ8_hugeLength_7cf53_28 : decode cJ8_hugeLength_7cf53 28 = .ok (.ldc 208, 2) := by decide +kernel
theorem dJ8_hugeLength_7cf53_30 : decode cJ8_hugeLength_7cf53 30 = .ok (.invokevirtual 94, 3) := by decide +kernel
theorem dJ8_hugeLength_7cf53_33 : decode cJ8_hugeLength_7cf53 33 = .ok (.iload_n 1, 1) := by decide +kernel
theorem dJ8_hugeLength_7cf53_34 : decode cJ8_hugeLength_7cf53 34 = .ok (.invokevirtual 98, 3) := by decide +kernel
theorem dJ8_hugeLength_7cf53_37 : decode cJ8_hugeLength_7cf53 37 = .ok (.ldc 210, 2) := by decide +kernel
theorem dJ8_hugeLength_7cf53_39 : decode cJ8_hugeLength_7cf53 39 = .ok (.invokevirtual 94, 3) := by decide +kernel
theorem dJ8_hugeLength_7cf53_42 : decode cJ8_hugeLength_7cf53 42 = .ok (.invokevirtual 101, 3) := by decide +kernel
theorem dJ8_hugeLength_7cf53_45 : decode cJ8_hugeLength_7cf53 45 = .ok (.invokespecial 212, 3) := by decide +kernel
theorem dJ8_hugeLength_7cf53_48 : decode cJ8_hugeLength_7cf53 48 = .ok (.athrow, 1) := by decide +kernel
theorem dJ8_hugeLength_7cf53_49 : decode cJ8_hugeLength_7cf53 49 = .ok (.iload_n 2, 1) := by decide +kernel
theorem dJ8_hugeLength_7cf53_50 : decode cJ8_hugeLength_7cf53 50 = .ok (.ldc 200, 2) := by decide +kernel
theorem dJ8_hugeLength_7cf53_52 : decode cJ8_hugeLength_7cf53 52 = .ok (.if_icmp .gt 6, 3) := by decide +kernel
theorem dJ8_hugeLength_7cf53_55 : decode cJ8_hugeLength_7cf53 55 = .ok (.ldc 200, 2) := by decide +kernel
theorem dJ8_hugeLength_7cf53_57 : decode cJ8_hugeLength_7cf53 57 = .ok (.ireturn, 1) := by decide +kernel
theorem dJ8_hugeLength_7cf53_58 : decode cJ8_hugeLength_7cf53 58 = .ok (.iload_n 2, 1) := by decide +kernel
theorem dJ8_hugeLength_7cf53_59 : decode cJ8_hugeLength_7cf53 59 = .ok (.ireturn, 1) := by decide +kernel
theorem dJ3_checkIndex_8e157_0 : decode cJ3_checkIndex_8e157 0 = .ok (.iload_n 0, 1) := by decide +kernel
theorem dJ3_checkIndex_8e157_1 : decode cJ3_checkIndex_8e157 1 = .ok (.ifCond .lt 8, 3) := by decide +kernel
theorem dJ3_checkIndex_8e157_4 : decode cJ3_checkIndex_8e157 4 = .ok (.iload_n 0, 1) := by decide +kernel
theorem dJ3_checkIndex_8e157_5 : decode cJ3_checkIndex_8e157 5 = .ok (.iload_n 1, 1) := by decide +kernel
theorem dJ3_checkIndex_8e157_6 : decode cJ3_checkIndex_8e157 6 = .ok (.if_icmp .lt 10, 3) := by decide +kernel
theorem dJ3_checkIndex_8e157_9 : decode cJ3_checkIndex_8e157 9 = .ok (.aload_n 2, 1) := by decide +kernel
theorem dJ3_checkIndex_8e157_10 : decode cJ3_checkIndex_8e157 10 = .ok (.iload_n 0, 1) := by decide +kernel
theorem dJ3_checkIndex_8e157_11 : decode cJ3_checkIndex_8e157 11 = .ok (.iload_n 1, 1) := by decide +kernel
theorem dJ3_checkIndex_8e157_12 : decode cJ3_checkIndex_8e157 12 = .ok (.invokestatic 95, 3) := by decide +kernel
theorem dJ3_checkIndex_8e157_15 : decode cJ3_checkIndex_8e157 15 = .ok (.athrow, 1) := by decide +kernel
theorem dJ3_checkIndex_8e157_16 : decode cJ3_checkIndex_8e157 16 = .ok (.iload_n 0, 1) := by decide +kernel
theorem dJ3_checkIndex_8e157_17 : decode cJ3_checkIndex_8e157 17 = .ok (.ireturn, 1) := by decide +kernel
end
section
theorem dL_told_0 : decode cL_told 0 = .ok (.iload_n 1, 1) := by decide +kernel
theorem dL_told_1 : decode cL_told 1 = .ok (.aload_n 0, 1) := by decide +kernel
theorem dL_told_2 : decode cL_told 2 = .ok (.arraylength, 1) := by decide +kernel
theorem dL_told_3 : decode cL_told 3 = .ok (.if_icmp .ge 9, 3) := by decide +kernel
theorem dL_told_6 : decode cL_told 6 = .ok (.aload_n 0, 1) := by decide +kernel
theorem dL_told_7 : decode cL_told 7 = .ok (.iload_n 1, 1) := by decide +kernel
theorem dL_told_8 : decode cL_told 8 = .ok (.iaload, 1) := by decide +kernel
theorem dL_told_9 : decode cL_told 9 = .ok (.goto 14, 3) := by decide +kernel
theorem dL_told_12 : decode cL_told 12 = .ok (.ldc 7, 2) := by decide +kernel
theorem dL_told_14 : decode cL_told 14 = .ok (.iload_n 1, 1) := by decide +kernel
theorem dL_told_15 : decode cL_told 15 = .ok (.iconst 3, 1) := by decide +kernel
theorem dL_told_16 : decode cL_told 16 = .ok (.iadd, 1) := by decide +kernel
theorem dL_told_17 : decode cL_told 17 = .ok (.imul, 1) := by decide +kernel
theorem dL_told_18 : decode cL_told 18 = .ok (.iload_n 1, 1) := by decide +kernel
theorem dL_told_19 : decode cL_told 19 = .ok (.bipush 11, 2) := by decide +kernel
theorem dL_told_21 : decode cL_told 21 = .ok (.iadd, 1) := by decide +kernel
theorem dL_told_22 : decode cL_told 22 = .ok (.imul, 1) := by decide +kernel
theorem dL_told_23 : decode cL_told 23 = .ok (.ldc 8, 2) := by decide +kernel
theorem dL_told_25 : decode cL_told 25 = .ok (.iand, 1) := by decide +kernel
theorem dL_told_26 : decode cL_told 26 = .ok (.ireturn, 1) := by decide +kernel
theorem dL_note_0 : decode cL_note 0 = .ok (.aload_n 0, 1) := by decide +kernel
theorem dL_note_1 : decode cL_note 1 = .ok (.iload_n 1, 1) := by decide +kernel
theorem dL_note_2 : decode cL_note 2 = .ok (.iconst 0, 1) := by decide +kernel
theorem dL_note_3 : decode cL_note 3 = .ok (.invokevirtual 9, 3) := by decide +kernel
theorem dL_note_6 : decode cL_note 6 = .ok (.istore 4, 2) := by decide +kernel
theorem dL_note_8 : decode cL_note 8 = .ok (.iconst 0, 1) := by decide +kernel
theorem dL_note_9 : decode cL_note 9 = .ok (.istore 5, 2) := by decide +kernel
theorem dL_note_11 : decode cL_note 11 = .ok (.iconst 0, 1) := by decide +kernel
theorem dL_note_12 : decode cL_note 12 = .ok (.istore 6, 2) := by decide +kernel
theorem dL_note_14 : decode cL_note 14 = .ok (.iload 6, 2) := by decide +kernel
theorem dL_note_16 : decode cL_note 16 = .ok (.aload_n 3, 1) := by decide +kernel
theorem dL_note_17 : decode cL_note 17 = .ok (.iload 4, 2) := by decide +kernel
theorem dL_note_19 : decode cL_note 19 = .ok (.iaload, 1) := by decide +kernel
theorem dL_note_20 : decode cL_note 20 = .ok (.if_icmp .ge 35, 3) := by decide +kernel
theorem dL_note_23 : decode cL_note 23 = .ok (.iload 5, 2) := by decide +kernel
theorem dL_note_25 : decode cL_note 25 = .ok (.ifCond .ne 17, 3) := by decide +kernel
theorem dL_note_28 : decode cL_note 28 = .ok (.aload_n 2, 1) := by decide +kernel
theorem dL_note_29 : decode cL_note 29 = .ok (.bipush 24, 2) := by decide +kernel
theorem dL_note_31 : decode cL_note 31 = .ok (.iload 4, 2) := by decide +kernel
theorem dL_note_33 : decode cL_note 33 = .ok (.imul, 1) := by decide +kernel
theorem dL_note_34 : decode cL_note 34 = .ok (.iload 6, 2) := by decide +kernel
theorem dL_note_36 : decode cL_note 36 = .ok (.iadd, 1) := by decide +kernel
theorem dL_note_37 : decode cL_note 37 = .ok (.iaload, 1) := by decide +kernel
theorem dL_note_38 : decode cL_note 38 = .ok (.iload_n 1, 1) := by decide +kernel
theorem dL_note_39 : decode cL_note 39 = .ok (.if_icmp .ne 7, 3) := by decide +kernel
theorem dL_note_42 : decode cL_note 42 = .ok (.iconst 1, 1) := by decide +kernel
theorem dL_note_43 : decode cL_note 43 = .ok (.goto 4, 3) := by decide +kernel
theorem dL_note_46 : decode cL_note 46 = .ok (.iconst 0, 1) := by decide +kernel
theorem dL_note_47 : decode cL_note 47 = .ok (.istore 5, 2) := by decide +kernel
theorem dL_note_49 : decode cL_note 49 = .ok (.iinc 6 1, 3) := by decide +kernel
theorem dL_note_52 : decode cL_note 52 = .ok (.goto (-38), 3) := by decide +kernel
theorem dL_note_55 : decode cL_note 55 = .ok (.iload 5, 2) := by decide +kernel
theorem dL_note_57 : decode cL_note 57 = .ok (.ifCond .ne 24, 3) := by decide +kernel
theorem dL_note_60 : decode cL_note 60 = .ok (.aload_n 2, 1) := by decide +kernel
theorem dL_note_61 : decode cL_note 61 = .ok (.bipush 24, 2) := by decide +kernel
theorem dL_note_63 : decode cL_note 63 = .ok (.iload 4, 2) := by decide +kernel
theorem dL_note_65 : decode cL_note 65 = .ok (.imul, 1) := by decide +kernel
theorem dL_note_66 : decode cL_note 66 = .ok (.aload_n 3, 1) := by decide +kernel
theorem dL_note_67 : decode cL_note 67 = .ok (.iload 4, 2) := by decide +kernel
theorem dL_note_69 : decode cL_note 69 = .ok (.iaload, 1) := by decide +kernel
theorem dL_note_70 : decode cL_note 70 = .ok (.iadd, 1) := by decide +kernel
theorem dL_note_71 : decode cL_note 71 = .ok (.iload_n 1, 1) := by decide +kernel
theorem dL_note_72 : decode cL_note 72 = .ok (.iastore, 1) := by decide +kernel
theorem dL_note_73 : decode cL_note 73 = .ok (.aload_n 3, 1) := by decide +kernel
theorem dL_note_74 : decode cL_note 74 = .ok (.iload 4, 2) := by decide +kernel
theorem dL_note_76 : decode cL_note 76 = .ok (.dup2, 1) := by decide +kernel
theorem dL_note_77 : decode cL_note 77 = .ok (.iaload, 1) := by decide +kernel
theorem dL_note_78 : decode cL_note 78 = .ok (.iconst 1, 1) := by decide +kernel
theorem dL_note_79 : decode cL_note 79 = .ok (.iadd, 1) := by decide +kernel
theorem dL_note_80 : decode cL_note 80 = .ok (.iastore, 1) := by decide +kernel
theorem dL_note_81 : decode cL_note 81 = .ok (.return_, 1) := by decide +kernel
theorem dL_isPolled_0 : decode cL_isPolled 0 = .ok (.aload_n 0, 1) := by decide +kernel
theorem dL_isPolled_1 : decode cL_isPolled 1 = .ok (.iload_n 1, 1) := by decide +kernel
theorem dL_isPolled_2 : decode cL_isPolled 2 = .ok (.invokevirtual 15, 3) := by decide +kernel
theorem dL_isPolled_5 : decode cL_isPolled 5 = .ok (.aload_n 3, 1) := by decide +kernel
theorem dL_isPolled_6 : decode cL_isPolled 6 = .ok (.iload_n 1, 1) := by decide +kernel
theorem dL_isPolled_7 : decode cL_isPolled 7 = .ok (.iaload, 1) := by decide +kernel
theorem dL_isPolled_8 : decode cL_isPolled 8 = .ok (.if_icmp .ne 7, 3) := by decide +kernel
theorem dL_isPolled_11 : decode cL_isPolled 11 = .ok (.iconst 1, 1) := by decide +kernel
theorem dL_isPolled_12 : decode cL_isPolled 12 = .ok (.goto 4, 3) := by decide +kernel
theorem dL_isPolled_15 : decode cL_isPolled 15 = .ok (.iconst 0, 1) := by decide +kernel
theorem dL_isPolled_16 : decode cL_isPolled 16 = .ok (.istore 4, 2) := by decide +kernel
theorem dL_isPolled_18 : decode cL_isPolled 18 = .ok (.iconst 0, 1) := by decide +kernel
theorem dL_isPolled_19 : decode cL_isPolled 19 = .ok (.istore 5, 2) := by decide +kernel
theorem dL_isPolled_21 : decode cL_isPolled 21 = .ok (.iload 5, 2) := by decide +kernel
theorem dL_isPolled_23 : decode cL_isPolled 23 = .ok (.aload_n 3, 1) := by decide +kernel
theorem dL_isPolled_24 : decode cL_isPolled 24 = .ok (.iload_n 1, 1) := by decide +kernel
theorem dL_isPolled_25 : decode cL_isPolled 25 = .ok (.iaload, 1) := by decide +kernel
theorem dL_isPolled_26 : decode cL_isPolled 26 = .ok (.if_icmp .ge 40, 3) := by decide +kernel
theorem dL_isPolled_29 : decode cL_isPolled 29 = .ok (.iload 4, 2) := by decide +kernel
theorem dL_isPolled_31 : decode cL_isPolled 31 = .ok (.ifCond .eq 26, 3) := by decide +kernel
theorem dL_isPolled_34 : decode cL_isPolled 34 = .ok (.aload_n 0, 1) := by decide +kernel
theorem dL_isPolled_35 : decode cL_isPolled 35 = .ok (.iload_n 1, 1) := by decide +kernel
theorem dL_isPolled_36 : decode cL_isPolled 36 = .ok (.iload 5, 2) := by decide +kernel
theorem dL_isPolled_38 : decode cL_isPolled 38 = .ok (.invokevirtual 19, 3) := by decide +kernel
theorem dL_isPolled_41 : decode cL_isPolled 41 = .ok (.aload_n 2, 1) := by decide +kernel
theorem dL_isPolled_42 : decode cL_isPolled 42 = .ok (.bipush 24, 2) := by decide +kernel
theorem dL_isPolled_44 : decode cL_isPolled 44 = .ok (.iload_n 1, 1) := by decide +kernel
theorem dL_isPolled_45 : decode cL_isPolled 45 = .ok (.imul, 1) := by decide +kernel
theorem dL_isPolled_46 : decode cL_isPolled 46 = .ok (.iload 5, 2) := by decide +kernel
theorem dL_isPolled_48 : decode cL_isPolled 48 = .ok (.iadd, 1) := by decide +kernel
theorem dL_isPolled_49 : decode cL_isPolled 49 = .ok (.iaload, 1) := by decide +kernel
theorem dL_isPolled_50 : decode cL_isPolled 50 = .ok (.if_icmp .ne 7, 3) := by decide +kernel
theorem dL_isPolled_53 : decode cL_isPolled 53 = .ok (.iconst 1, 1) := by decide +kernel
theorem dL_isPolled_54 : decode cL_isPolled 54 = .ok (.goto 4, 3) := by decide +kernel
theorem dL_isPolled_57 : decode cL_isPolled 57 = .ok (.iconst 0, 1) := by decide +kernel
theorem dL_isPolled_58 : decode cL_isPolled 58 = .ok (.istore 4, 2) := by decide +kernel
theorem dL_isPolled_60 : decode cL_isPolled 60 = .ok (.iinc 5 1, 3) := by decide +kernel
theorem dL_isPolled_63 : decode cL_isPolled 63 = .ok (.goto (-42), 3) := by decide +kernel
theorem dL_isPolled_66 : decode cL_isPolled 66 = .ok (.iload 4, 2) := by decide +kernel
theorem dL_isPolled_68 : decode cL_isPolled 68 = .ok (.ifCond .eq 30, 3) := by decide +kernel
theorem dL_isPolled_71 : decode cL_isPolled 71 = .ok (.aload_n 0, 1) := by decide +kernel
theorem dL_isPolled_72 : decode cL_isPolled 72 = .ok (.iload_n 1, 1) := by decide +kernel
theorem dL_isPolled_73 : decode cL_isPolled 73 = .ok (.aload_n 3, 1) := by decide +kernel
theorem dL_isPolled_74 : decode cL_isPolled 74 = .ok (.iload_n 1, 1) := by decide +kernel
theorem dL_isPolled_75 : decode cL_isPolled 75 = .ok (.iaload, 1) := by decide +kernel
theorem dL_isPolled_76 : decode cL_isPolled 76 = .ok (.invokevirtual 19, 3) := by decide +kernel
theorem dL_isPolled_79 : decode cL_isPolled 79 = .ok (.iconst (-1), 1) := by decide +kernel
theorem dL_isPolled_80 : decode cL_isPolled 80 = .ok (.if_icmp .ne 18, 3) := by decide +kernel
theorem dL_isPolled_83 : decode cL_isPolled 83 = .ok (.aload_n 0, 1) := by decide +kernel
theorem dL_isPolled_84 : decode cL_isPolled 84 = .ok (.iload_n 1, 1) := by decide +kernel
theorem dL_isPolled_85 : decode cL_isPolled 85 = .ok (.bipush 24, 2) := by decide +kernel
theorem dL_isPolled_87 : decode cL_isPolled 87 = .ok (.invokevirtual 19, 3) := by decide +kernel
theorem dL_isPolled_90 : decode cL_isPolled 90 = .ok (.iconst (-1), 1) := by decide +kernel
theorem dL_isPolled_91 : decode cL_isPolled 91 = .ok (.if_icmp .ne 7, 3) := by decide +kernel
theorem dL_isPolled_94 : decode cL_isPolled 94 = .ok (.iconst 1, 1) := by decide +kernel
theorem dL_isPolled_95 : decode cL_isPolled 95 = .ok (.goto 4, 3) := by decide +kernel
theorem dL_isPolled_98 : decode cL_isPolled 98 = .ok (.iconst 0, 1) := by decide +kernel
theorem dL_isPolled_99 : decode cL_isPolled 99 = .ok (.istore 4, 2) := by decide +kernel
theorem dL_isPolled_101 : decode cL_isPolled 101 = .ok (.aload_n 3, 1) := by decide +kernel
theorem dL_isPolled_102 : decode cL_isPolled 102 = .ok (.iload_n 1, 1) := by decide +kernel
theorem dL_isPolled_103 : decode cL_isPolled 103 = .ok (.iconst 0, 1) := by decide +kernel
theorem dL_isPolled_104 : decode cL_isPolled 104 = .ok (.iastore, 1) := by decide +kernel
theorem dL_isPolled_105 : decode cL_isPolled 105 = .ok (.iload 4, 2) := by decide +kernel
theorem dL_isPolled_107 : decode cL_isPolled 107 = .ok (.ireturn, 1) := by decide +kernel
theorem dL_draft_0 : decode cL_draft 0 = .ok (.iload_n 1, 1) := by decide +kernel
theorem dL_draft_1 : decode cL_draft 1 = .ok (.iconst 3, 1) := by decide +kernel
theorem dL_draft_2 : decode cL_draft 2 = .ok (.irem, 1) := by decide +kernel
theorem dL_draft_3 : decode cL_draft 3 = .ok (.ifCond .le 15, 3) := by decide +kernel
theorem dL_draft_6 : decode cL_draft 6 = .ok (.aload_n 0, 1) := by decide +kernel
theorem dL_draft_7 : decode cL_draft 7 = .ok (.iconst 1, 1) := by decide +kernel
theorem dL_draft_8 : decode cL_draft 8 = .ok (.iload_n 1, 1) := by decide +kernel
theorem dL_draft_9 : decode cL_draft 9 = .ok (.sipush 999, 3) := by decide +kernel
theorem dL_draft_12 : decode cL_draft 12 = .ok (.irem, 1) := by decide +kernel
theorem dL_draft_13 : decode cL_draft 13 = .ok (.iadd, 1) := by decide +kernel
theorem dL_draft_14 : decode cL_draft 14 = .ok (.invokevirtual 22, 3) := by decide +kernel
theorem dL_draft_17 : decode cL_draft 17 = .ok (.pop, 1) := by decide +kernel
theorem dL_draft_18 : decode cL_draft 18 = .ok (.iload_n 1, 1) := by decide +kernel
theorem dL_draft_19 : decode cL_draft 19 = .ok (.bipush 16, 2) := by decide +kernel
theorem dL_draft_21 : decode cL_draft 21 = .ok (.idiv, 1) := by decide +kernel
theorem dL_draft_22 : decode cL_draft 22 = .ok (.bipush 10, 2) := by decide +kernel
theorem dL_draft_24 : decode cL_draft 24 = .ok (.irem, 1) := by decide +kernel
theorem dL_draft_25 : decode cL_draft 25 = .ok (.istore 4, 2) := by decide +kernel
theorem dL_draft_27 : decode cL_draft 27 = .ok (.iconst 0, 1) := by decide +kernel
theorem dL_draft_28 : decode cL_draft 28 = .ok (.istore 5, 2) := by decide +kernel
theorem dL_draft_30 : decode cL_draft 30 = .ok (.iload 5, 2) := by decide +kernel
theorem dL_draft_32 : decode cL_draft 32 = .ok (.iconst 1, 1) := by decide +kernel
theorem dL_draft_33 : decode cL_draft 33 = .ok (.iload_n 1, 1) := by decide +kernel
theorem dL_draft_34 : decode cL_draft 34 = .ok (.iconst 4, 1) := by decide +kernel
theorem dL_draft_35 : decode cL_draft 35 = .ok (.idiv, 1) := by decide +kernel
theorem dL_draft_36 : decode cL_draft 36 = .ok (.iconst 3, 1) := by decide +kernel
theorem dL_draft_37 : decode cL_draft 37 = .ok (.irem, 1) := by decide +kernel
theorem dL_draft_38 : decode cL_draft 38 = .ok (.iadd, 1) := by decide +kernel
theorem dL_draft_39 : decode cL_draft 39 = .ok (.if_icmp .ge 46, 3) := by decide +kernel
theorem dL_draft_42 : decode cL_draft 42 = .ok (.lload_n 2, 1) := by decide +kernel
theorem dL_draft_43 : decode cL_draft 43 = .ok (.iload 4, 2) := by decide +kernel
theorem dL_draft_45 : decode cL_draft 45 = .ok (.iload 5, 2) := by decide +kernel
theorem dL_draft_47 : decode cL_draft 47 = .ok (.iadd, 1) := by decide +kernel
theorem dL_draft_48 : decode cL_draft 48 = .ok (.bipush 10, 2) := by decide +kernel
theorem dL_draft_50 : decode cL_draft 50 = .ok (.irem, 1) := by decide +kernel
theorem dL_draft_51 : decode cL_draft 51 = .ok (.lshr, 1) := by decide +kernel
theorem dL_draft_52 : decode cL_draft 52 = .ok (.lconst 1, 1) := by decide +kernel
theorem dL_draft_53 : decode cL_draft 53 = .ok (.land, 1) := by decide +kernel
theorem dL_draft_54 : decode cL_draft 54 = .ok (.lconst 0, 1) := by decide +kernel
theorem dL_draft_55 : decode cL_draft 55 = .ok (.lcmp, 1) := by decide +kernel
theorem dL_draft_56 : decode cL_draft 56 = .ok (.ifCond .ne 23, 3) := by decide +kernel
theorem dL_draft_59 : decode cL_draft 59 = .ok (.aload_n 0, 1) := by decide +kernel
theorem dL_draft_60 : decode cL_draft 60 = .ok (.iload 4, 2) := by decide +kernel
theorem dL_draft_62 : decode cL_draft 62 = .ok (.iload 5, 2) := by decide +kernel
theorem dL_draft_64 : decode cL_draft 64 = .ok (.iadd, 1) := by decide +kernel
theorem dL_draft_65 : decode cL_draft 65 = .ok (.bipush 10, 2) := by decide +kernel
theorem dL_draft_67 : decode cL_draft 67 = .ok (.irem, 1) := by decide +kernel
theorem dL_draft_68 : decode cL_draft 68 = .ok (.iconst 1, 1) := by decide +kernel
theorem dL_draft_69 : decode cL_draft 69 = .ok (.iload_n 1, 1) := by decide +kernel
theorem dL_draft_70 : decode cL_draft 70 = .ok (.sipush 300, 3) := by decide +kernel
theorem dL_draft_73 : decode cL_draft 73 = .ok (.irem, 1) := by decide +kernel
theorem dL_draft_74 : decode cL_draft 74 = .ok (.iadd, 1) := by decide +kernel
theorem dL_draft_75 : decode cL_draft 75 = .ok (.invokevirtual 25, 3) := by decide +kernel
theorem dL_draft_78 : decode cL_draft 78 = .ok (.pop, 1) := by decide +kernel
theorem dL_draft_79 : decode cL_draft 79 = .ok (.iinc 5 1, 3) := by decide +kernel
theorem dL_draft_82 : decode cL_draft 82 = .ok (.goto (-52), 3) := by decide +kernel
theorem dL_draft_85 : decode cL_draft 85 = .ok (.iload_n 1, 1) := by decide +kernel
theorem dL_draft_86 : decode cL_draft 86 = .ok (.iconst 3, 1) := by decide +kernel
theorem dL_draft_87 : decode cL_draft 87 = .ok (.irem, 1) := by decide +kernel
theorem dL_draft_88 : decode cL_draft 88 = .ok (.ifCond .eq 10, 3) := by decide +kernel
theorem dL_draft_91 : decode cL_draft 91 = .ok (.iload_n 1, 1) := by decide +kernel
theorem dL_draft_92 : decode cL_draft 92 = .ok (.bipush 7, 2) := by decide +kernel
theorem dL_draft_94 : decode cL_draft 94 = .ok (.irem, 1) := by decide +kernel
theorem dL_draft_95 : decode cL_draft 95 = .ok (.ifCond .ne 11, 3) := by decide +kernel
theorem dL_draft_98 : decode cL_draft 98 = .ok (.aload_n 0, 1) := by decide +kernel
theorem dL_draft_99 : decode cL_draft 99 = .ok (.iload_n 1, 1) := by decide +kernel
theorem dL_draft_100 : decode cL_draft 100 = .ok (.iconst 3, 1) := by decide +kernel
theorem dL_draft_101 : decode cL_draft 101 = .ok (.irem, 1) := by decide +kernel
theorem dL_draft_102 : decode cL_draft 102 = .ok (.invokevirtual 28, 3) := by decide +kernel
theorem dL_draft_105 : decode cL_draft 105 = .ok (.pop, 1) := by decide +kernel
theorem dL_draft_106 : decode cL_draft 106 = .ok (.return_, 1) := by decide +kernel
theorem dL_cuts_0 : decode cL_cuts 0 = .ok (.iload_n 2, 1) := by decide +kernel
theorem dL_cuts_1 : decode cL_cuts 1 = .ok (.sipush 512, 3) := by decide +kernel
theorem dL_cuts_4 : decode cL_cuts 4 = .ok (.idiv, 1) := by decide +kernel
theorem dL_cuts_5 : decode cL_cuts 5 = .ok (.aload_n 0, 1) := by decide +kernel
theorem dL_cuts_6 : decode cL_cuts 6 = .ok (.iload_n 1, 1) := by decide +kernel
theorem dL_cuts_7 : decode cL_cuts 7 = .ok (.iconst 4, 1) := by decide +kernel
theorem dL_cuts_8 : decode cL_cuts 8 = .ok (.invokevirtual 9, 3) := by decide +kernel
theorem dL_cuts_11 : decode cL_cuts 11 = .ok (.irem, 1) := by decide +kernel
theorem dL_cuts_12 : decode cL_cuts 12 = .ok (.istore 5, 2) := by decide +kernel
theorem dL_cuts_14 : decode cL_cuts 14 = .ok (.aload_n 0, 1) := by decide +kernel
theorem dL_cuts_15 : decode cL_cuts 15 = .ok (.iload_n 1, 1) := by decide +kernel
theorem dL_cuts_16 : decode cL_cuts 16 = .ok (.iconst 5, 1) := by decide +kernel
theorem dL_cuts_17 : decode cL_cuts 17 = .ok (.invokevirtual 9, 3) := by decide +kernel
theorem dL_cuts_20 : decode cL_cuts 20 = .ok (.istore 6, 2) := by decide +kernel
theorem dL_cuts_22 : decode cL_cuts 22 = .ok (.aload_n 0, 1) := by decide +kernel
theorem dL_cuts_23 : decode cL_cuts 23 = .ok (.iload_n 1, 1) := by decide +kernel
theorem dL_cuts_24 : decode cL_cuts 24 = .ok (.iload 5, 2) := by decide +kernel
theorem dL_cuts_26 : decode cL_cuts 26 = .ok (.iconst 3, 1) := by decide +kernel
theorem dL_cuts_27 : decode cL_cuts 27 = .ok (.invokevirtual 31, 3) := by decide +kernel
theorem dL_cuts_30 : decode cL_cuts 30 = .ok (.iconst 1, 1) := by decide +kernel
theorem dL_cuts_31 : decode cL_cuts 31 = .ok (.if_icmp .eq 19, 3) := by decide +kernel
theorem dL_cuts_34 : decode cL_cuts 34 = .ok (.aload_n 0, 1) := by decide +kernel
theorem dL_cuts_35 : decode cL_cuts 35 = .ok (.iload_n 1, 1) := by decide +kernel
theorem dL_cuts_36 : decode cL_cuts 36 = .ok (.iconst 3, 1) := by decide +kernel
theorem dL_cuts_37 : decode cL_cuts 37 = .ok (.invokevirtual 9, 3) := by decide +kernel
theorem dL_cuts_40 : decode cL_cuts 40 = .ok (.iconst 1, 1) := by decide +kernel
theorem dL_cuts_41 : decode cL_cuts 41 = .ok (.if_icmp .eq 9, 3) := by decide +kernel
theorem dL_cuts_44 : decode cL_cuts 44 = .ok (.iload 6, 2) := by decide +kernel
theorem dL_cuts_46 : decode cL_cuts 46 = .ok (.iconst 1, 1) := by decide +kernel
theorem dL_cuts_47 : decode cL_cuts 47 = .ok (.if_icmp .ne 5, 3) := by decide +kernel
theorem dL_cuts_50 : decode cL_cuts 50 = .ok (.iconst 1, 1) := by decide +kernel
theorem dL_cuts_51 : decode cL_cuts 51 = .ok (.ireturn, 1) := by decide +kernel
theorem dL_cuts_52 : decode cL_cuts 52 = .ok (.aload_n 0, 1) := by decide +kernel
theorem dL_cuts_53 : decode cL_cuts 53 = .ok (.iload_n 1, 1) := by decide +kernel
theorem dL_cuts_54 : decode cL_cuts 54 = .ok (.iload 5, 2) := by decide +kernel
theorem dL_cuts_56 : decode cL_cuts 56 = .ok (.invokevirtual 35, 3) := by decide +kernel
theorem dL_cuts_59 : decode cL_cuts 59 = .ok (.iload 6, 2) := by decide +kernel
theorem dL_cuts_61 : decode cL_cuts 61 = .ok (.iconst 1, 1) := by decide +kernel
theorem dL_cuts_62 : decode cL_cuts 62 = .ok (.isub, 1) := by decide +kernel
theorem dL_cuts_63 : decode cL_cuts 63 = .ok (.if_icmp .ne 28, 3) := by decide +kernel
theorem dL_cuts_66 : decode cL_cuts 66 = .ok (.aload_n 0, 1) := by decide +kernel
theorem dL_cuts_67 : decode cL_cuts 67 = .ok (.iload_n 1, 1) := by decide +kernel
theorem dL_cuts_68 : decode cL_cuts 68 = .ok (.iload 5, 2) := by decide +kernel
theorem dL_cuts_70 : decode cL_cuts 70 = .ok (.iconst 3, 1) := by decide +kernel
theorem dL_cuts_71 : decode cL_cuts 71 = .ok (.invokevirtual 31, 3) := by decide +kernel
theorem dL_cuts_74 : decode cL_cuts 74 = .ok (.iconst 1, 1) := by decide +kernel
theorem dL_cuts_75 : decode cL_cuts 75 = .ok (.if_icmp .ne 16, 3) := by decide +kernel
theorem dL_cuts_78 : decode cL_cuts 78 = .ok (.aload_n 0, 1) := by decide +kernel
theorem dL_cuts_79 : decode cL_cuts 79 = .ok (.iload_n 1, 1) := by decide +kernel
theorem dL_cuts_80 : decode cL_cuts 80 = .ok (.iconst 3, 1) := by decide +kernel
theorem dL_cuts_81 : decode cL_cuts 81 = .ok (.invokevirtual 9, 3) := by decide +kernel
theorem dL_cuts_84 : decode cL_cuts 84 = .ok (.ifCond .ne 7, 3) := by decide +kernel
theorem dL_cuts_87 : decode cL_cuts 87 = .ok (.iconst 1, 1) := by decide +kernel
theorem dL_cuts_88 : decode cL_cuts 88 = .ok (.goto 4, 3) := by decide +kernel
theorem dL_cuts_91 : decode cL_cuts 91 = .ok (.iconst 0, 1) := by decide +kernel
theorem dL_cuts_92 : decode cL_cuts 92 = .ok (.istore 7, 2) := by decide +kernel
theorem dL_cuts_94 : decode cL_cuts 94 = .ok (.aload_n 0, 1) := by decide +kernel
theorem dL_cuts_95 : decode cL_cuts 95 = .ok (.iload_n 1, 1) := by decide +kernel
theorem dL_cuts_96 : decode cL_cuts 96 = .ok (.iconst 2, 1) := by decide +kernel
theorem dL_cuts_97 : decode cL_cuts 97 = .ok (.invokevirtual 9, 3) := by decide +kernel
theorem dL_cuts_100 : decode cL_cuts 100 = .ok (.iconst 1, 1) := by decide +kernel
theorem dL_cuts_101 : decode cL_cuts 101 = .ok (.if_icmp .ne 11, 3) := by decide +kernel
theorem dL_cuts_104 : decode cL_cuts 104 = .ok (.aload_n 0, 1) := by decide +kernel
theorem dL_cuts_105 : decode cL_cuts 105 = .ok (.iload_n 1, 1) := by decide +kernel
theorem dL_cuts_106 : decode cL_cuts 106 = .ok (.aload_n 3, 1) := by decide +kernel
theorem dL_cuts_107 : decode cL_cuts 107 = .ok (.aload 4, 2) := by decide +kernel
theorem dL_cuts_109 : decode cL_cuts 109 = .ok (.invokestatic 38, 3) := by decide +kernel
theorem dL_cuts_112 : decode cL_cuts 112 = .ok (.iload 7, 2) := by decide +kernel
theorem dL_cuts_114 : decode cL_cuts 114 = .ok (.ireturn, 1) := by decide +kernel
theorem dL_goesOut_0 : decode cL_goesOut 0 = .ok (.bipush 24, 2) := by decide +kernel
theorem dL_goesOut_2 : decode cL_goesOut 2 = .ok (.newarray .int, 2) := by decide +kernel
theorem dL_goesOut_4 : decode cL_goesOut 4 = .ok (.astore 5, 2) := by decide +kernel
theorem dL_goesOut_6 : decode cL_goesOut 6 = .ok (.iconst 0, 1) := by decide +kernel
theorem dL_goesOut_7 : decode cL_goesOut 7 = .ok (.istore 6, 2) := by decide +kernel
theorem dL_goesOut_9 : decode cL_goesOut 9 = .ok (.iconst 0, 1) := by decide +kernel
theorem dL_goesOut_10 : decode cL_goesOut 10 = .ok (.istore 7, 2) := by decide +kernel
theorem dL_goesOut_12 : decode cL_goesOut 12 = .ok (.iload 7, 2) := by decide +kernel
theorem dL_goesOut_14 : decode cL_goesOut 14 = .ok (.iload_n 1, 1) := by decide +kernel
theorem dL_goesOut_15 : decode cL_goesOut 15 = .ok (.if_icmp .ge 21, 3) := by decide +kernel
theorem dL_goesOut_18 : decode cL_goesOut 18 = .ok (.aload 5, 2) := by decide +kernel
theorem dL_goesOut_20 : decode cL_goesOut 20 = .ok (.iload 7, 2) := by decide +kernel
theorem dL_goesOut_22 : decode cL_goesOut 22 = .ok (.aload_n 0, 1) := by decide +kernel
theorem dL_goesOut_23 : decode cL_goesOut 23 = .ok (.iload 7, 2) := by decide +kernel
theorem dL_goesOut_25 : decode cL_goesOut 25 = .ok (.iconst 5, 1) := by decide +kernel
theorem dL_goesOut_26 : decode cL_goesOut 26 = .ok (.invokevirtual 9, 3) := by decide +kernel
theorem dL_goesOut_29 : decode cL_goesOut 29 = .ok (.iastore, 1) := by decide +kernel
theorem dL_goesOut_30 : decode cL_goesOut 30 = .ok (.iinc 7 1, 3) := by decide +kernel
theorem dL_goesOut_33 : decode cL_goesOut 33 = .ok (.goto (-21), 3) := by decide +kernel
theorem dL_goesOut_36 : decode cL_goesOut 36 = .ok (.aload_n 0, 1) := by decide +kernel
theorem dL_goesOut_37 : decode cL_goesOut 37 = .ok (.iload_n 2, 1) := by decide +kernel
theorem dL_goesOut_38 : decode cL_goesOut 38 = .ok (.invokevirtual 44, 3) := by decide +kernel
theorem dL_goesOut_41 : decode cL_goesOut 41 = .ok (.istore 7, 2) := by decide +kernel
theorem dL_goesOut_43 : decode cL_goesOut 43 = .ok (.iconst 1, 1) := by decide +kernel
theorem dL_goesOut_44 : decode cL_goesOut 44 = .ok (.istore 8, 2) := by decide +kernel
theorem dL_goesOut_46 : decode cL_goesOut 46 = .ok (.iconst 0, 1) := by decide +kernel
theorem dL_goesOut_47 : decode cL_goesOut 47 = .ok (.istore 9, 2) := by decide +kernel
theorem dL_goesOut_49 : decode cL_goesOut 49 = .ok (.iload 9, 2) := by decide +kernel
theorem dL_goesOut_51 : decode cL_goesOut 51 = .ok (.iload_n 1, 1) := by decide +kernel
theorem dL_goesOut_52 : decode cL_goesOut 52 = .ok (.if_icmp .ge 89, 3) := by decide +kernel
theorem dL_goesOut_55 : decode cL_goesOut 55 = .ok (.aload_n 0, 1) := by decide +kernel
theorem dL_goesOut_56 : decode cL_goesOut 56 = .ok (.iload 9, 2) := by decide +kernel
theorem dL_goesOut_58 : decode cL_goesOut 58 = .ok (.iconst 5, 1) := by decide +kernel
theorem dL_goesOut_59 : decode cL_goesOut 59 = .ok (.invokevirtual 9, 3) := by decide +kernel
theorem dL_goesOut_62 : decode cL_goesOut 62 = .ok (.istore 10, 2) := by decide +kernel
theorem dL_goesOut_64 : decode cL_goesOut 64 = .ok (.iload 6, 2) := by decide +kernel
theorem dL_goesOut_66 : decode cL_goesOut 66 = .ok (.aload 5, 2) := by decide +kernel
theorem dL_goesOut_68 : decode cL_goesOut 68 = .ok (.iload 9, 2) := by decide +kernel
theorem dL_goesOut_70 : decode cL_goesOut 70 = .ok (.iaload, 1) := by decide +kernel
theorem dL_goesOut_71 : decode cL_goesOut 71 = .ok (.iload 10, 2) := by decide +kernel
theorem dL_goesOut_73 : decode cL_goesOut 73 = .ok (.isub, 1) := by decide +kernel
theorem dL_goesOut_74 : decode cL_goesOut 74 = .ok (.iadd, 1) := by decide +kernel
theorem dL_goesOut_75 : decode cL_goesOut 75 = .ok (.istore 6, 2) := by decide +kernel
theorem dL_goesOut_77 : decode cL_goesOut 77 = .ok (.iload 10, 2) := by decide +kernel
theorem dL_goesOut_79 : decode cL_goesOut 79 = .ok (.aload 5, 2) := by decide +kernel
theorem dL_goesOut_81 : decode cL_goesOut 81 = .ok (.iload 9, 2) := by decide +kernel
theorem dL_goesOut_83 : decode cL_goesOut 83 = .ok (.iaload, 1) := by decide +kernel
theorem dL_goesOut_84 : decode cL_goesOut 84 = .ok (.if_icmp .ge 23, 3) := by decide +kernel
theorem dL_goesOut_87 : decode cL_goesOut 87 = .ok (.aload_n 0, 1) := by decide +kernel
theorem dL_goesOut_88 : decode cL_goesOut 88 = .ok (.iload 9, 2) := by decide +kernel
theorem dL_goesOut_90 : decode cL_goesOut 90 = .ok (.iconst 2, 1) := by decide +kernel
theorem dL_goesOut_91 : decode cL_goesOut 91 = .ok (.invokevirtual 9, 3) := by decide +kernel
theorem dL_goesOut_94 : decode cL_goesOut 94 = .ok (.iconst 1, 1) := by decide +kernel
theorem dL_goesOut_95 : decode cL_goesOut 95 = .ok (.if_icmp .ne 12, 3) := by decide +kernel
theorem dL_goesOut_98 : decode cL_goesOut 98 = .ok (.aload_n 0, 1) := by decide +kernel
theorem dL_goesOut_99 : decode cL_goesOut 99 = .ok (.iload 9, 2) := by decide +kernel
theorem dL_goesOut_101 : decode cL_goesOut 101 = .ok (.aload_n 3, 1) := by decide +kernel
theorem dL_goesOut_102 : decode cL_goesOut 102 = .ok (.aload 4, 2) := by decide +kernel
theorem dL_goesOut_104 : decode cL_goesOut 104 = .ok (.invokestatic 38, 3) := by decide +kernel
theorem dL_goesOut_107 : decode cL_goesOut 107 = .ok (.iload 8, 2) := by decide +kernel
theorem dL_goesOut_109 : decode cL_goesOut 109 = .ok (.ifCond .eq 23, 3) := by decide +kernel
theorem dL_goesOut_112 : decode cL_goesOut 112 = .ok (.iload 10, 2) := by decide +kernel
theorem dL_goesOut_114 : decode cL_goesOut 114 = .ok (.ifCond .gt 14, 3) := by decide +kernel
theorem dL_goesOut_117 : decode cL_goesOut 117 = .ok (.aload_n 0, 1) := by decide +kernel
theorem dL_goesOut_118 : decode cL_goesOut 118 = .ok (.iload 9, 2) := by decide +kernel
theorem dL_goesOut_120 : decode cL_goesOut 120 = .ok (.iconst 3, 1) := by decide +kernel
theorem dL_goesOut_121 : decode cL_goesOut 121 = .ok (.invokevirtual 9, 3) := by decide +kernel
theorem dL_goesOut_124 : decode cL_goesOut 124 = .ok (.iconst 1, 1) := by decide +kernel
theorem dL_goesOut_125 : decode cL_goesOut 125 = .ok (.if_icmp .ne 7, 3) := by decide +kernel
theorem dL_goesOut_128 : decode cL_goesOut 128 = .ok (.iconst 1, 1) := by decide +kernel
theorem dL_goesOut_129 : decode cL_goesOut 129 = .ok (.goto 4, 3) := by decide +kernel
theorem dL_goesOut_132 : decode cL_goesOut 132 = .ok (.iconst 0, 1) := by decide +kernel
theorem dL_goesOut_133 : decode cL_goesOut 133 = .ok (.istore 8, 2) := by decide +kernel
theorem dL_goesOut_135 : decode cL_goesOut 135 = .ok (.iinc 9 1, 3) := by decide +kernel
theorem dL_goesOut_138 : decode cL_goesOut 138 = .ok (.goto (-89), 3) := by decide +kernel
theorem dL_goesOut_141 : decode cL_goesOut 141 = .ok (.iload 8, 2) := by decide +kernel
theorem dL_goesOut_143 : decode cL_goesOut 143 = .ok (.ifCond .eq 14, 3) := by decide +kernel
theorem dL_goesOut_146 : decode cL_goesOut 146 = .ok (.iload 6, 2) := by decide +kernel
theorem dL_goesOut_148 : decode cL_goesOut 148 = .ok (.iload 7, 2) := by decide +kernel
theorem dL_goesOut_150 : decode cL_goesOut 150 = .ok (.if_icmp .ne 7, 3) := by decide +kernel
theorem dL_goesOut_153 : decode cL_goesOut 153 = .ok (.iconst 1, 1) := by decide +kernel
theorem dL_goesOut_154 : decode cL_goesOut 154 = .ok (.goto 4, 3) := by decide +kernel
theorem dL_goesOut_157 : decode cL_goesOut 157 = .ok (.iconst 0, 1) := by decide +kernel
theorem dL_goesOut_158 : decode cL_goesOut 158 = .ok (.ireturn, 1) := by decide +kernel
end
section
theorem dL_law_0 : decode cL_law 0 = .ok (.new 10, 3) := by decide +kernel
theorem dL_law_3 : decode cL_law 3 = .ok (.dup, 1) := by decide +kernel
theorem dL_law_4 : decode cL_law 4 = .ok (.invokespecial 47, 3) := by decide +kernel
theorem dL_law_7 : decode cL_law 7 = .ok (.astore_n 1, 1) := by decide +kernel
theorem dL_law_8 : decode cL_law 8 = .ok (.bipush 48, 2) := by decide +kernel
theorem dL_law_10 : decode cL_law 10 = .ok (.newarray .int, 2) := by decide +kernel
theorem dL_law_12 : decode cL_law 12 = .ok (.astore_n 2, 1) := by decide +kernel
theorem dL_law_13 : decode cL_law 13 = .ok (.iconst 2, 1) := by decide +kernel
theorem dL_law_14 : decode cL_law 14 = .ok (.newarray .int, 2) := by decide +kernel
theorem dL_law_16 : decode cL_law 16 = .ok (.astore_n 3, 1) := by decide +kernel
theorem dL_law_17 : decode cL_law 17 = .ok (.bipush 24, 2) := by decide +kernel
theorem dL_law_19 : decode cL_law 19 = .ok (.newarray .int, 2) := by decide +kernel
theorem dL_law_21 : decode cL_law 21 = .ok (.astore 4, 2) := by decide +kernel
theorem dL_law_23 : decode cL_law 23 = .ok (.lconst 0, 1) := by decide +kernel
theorem dL_law_24 : decode cL_law 24 = .ok (.lstore 5, 2) := by decide +kernel
theorem dL_law_26 : decode cL_law 26 = .ok (.iconst 0, 1) := by decide +kernel
theorem dL_law_27 : decode cL_law 27 = .ok (.istore 7, 2) := by decide +kernel
theorem dL_law_29 : decode cL_law 29 = .ok (.aload_n 1, 1) := by decide +kernel
theorem dL_law_30 : decode cL_law 30 = .ok (.iconst 0, 1) := by decide +kernel
theorem dL_law_31 : decode cL_law 31 = .ok (.invokevirtual 48, 3) := by decide +kernel
theorem dL_law_34 : decode cL_law 34 = .ok (.ifCond .ne 26, 3) := by decide +kernel
theorem dL_law_37 : decode cL_law 37 = .ok (.aload_n 1, 1) := by decide +kernel
theorem dL_law_38 : decode cL_law 38 = .ok (.iconst 1, 1) := by decide +kernel
theorem dL_law_39 : decode cL_law 39 = .ok (.invokevirtual 48, 3) := by decide +kernel
theorem dL_law_42 : decode cL_law 42 = .ok (.iconst 1, 1) := by decide +kernel
theorem dL_law_43 : decode cL_law 43 = .ok (.if_icmp .ne 17, 3) := by decide +kernel
theorem dL_law_46 : decode cL_law 46 = .ok (.aload_n 1, 1) := by decide +kernel
theorem dL_law_47 : decode cL_law 47 = .ok (.iconst 0, 1) := by decide +kernel
theorem dL_law_48 : decode cL_law 48 = .ok (.iconst 0, 1) := by decide +kernel
theorem dL_law_49 : decode cL_law 49 = .ok (.invokevirtual 19, 3) := by decide +kernel
theorem dL_law_52 : decode cL_law 52 = .ok (.iconst (-1), 1) := by decide +kernel
theorem dL_law_53 : decode cL_law 53 = .ok (.if_icmp .ne 7, 3) := by decide +kernel
theorem dL_law_56 : decode cL_law 56 = .ok (.iconst 1, 1) := by decide +kernel
theorem dL_law_57 : decode cL_law 57 = .ok (.goto 4, 3) := by decide +kernel
theorem dL_law_60 : decode cL_law 60 = .ok (.iconst 0, 1) := by decide +kernel
theorem dL_law_61 : decode cL_law 61 = .ok (.istore 8, 2) := by decide +kernel
theorem dL_law_63 : decode cL_law 63 = .ok (.iconst 0, 1) := by decide +kernel
theorem dL_law_64 : decode cL_law 64 = .ok (.istore 9, 2) := by decide +kernel
theorem dL_law_66 : decode cL_law 66 = .ok (.iload 9, 2) := by decide +kernel
theorem dL_law_68 : decode cL_law 68 = .ok (.bipush 50, 2) := by decide +kernel
theorem dL_law_70 : decode cL_law 70 = .ok (.if_icmp .ge 450, 3) := by decide +kernel
theorem dL_law_73 : decode cL_law 73 = .ok (.iload 8, 2) := by decide +kernel
theorem dL_law_75 : decode cL_law 75 = .ok (.ifCond .eq 445, 3) := by decide +kernel
theorem dL_law_78 : decode cL_law 78 = .ok (.aload_n 0, 1) := by decide +kernel
theorem dL_law_79 : decode cL_law 79 = .ok (.iload 9, 2) := by decide +kernel
theorem dL_law_81 : decode cL_law 81 = .ok (.invokestatic 51, 3) := by decide +kernel
theorem dL_law_84 : decode cL_law 84 = .ok (.istore 10, 2) := by decide +kernel
theorem dL_law_86 : decode cL_law 86 = .ok (.iload 7, 2) := by decide +kernel
theorem dL_law_88 : decode cL_law 88 = .ok (.ifCond .ne 7, 3) := by decide +kernel
theorem dL_law_91 : decode cL_law 91 = .ok (.iconst 0, 1) := by decide +kernel
theorem dL_law_92 : decode cL_law 92 = .ok (.goto 11, 3) := by decide +kernel
theorem dL_law_95 : decode cL_law 95 = .ok (.iload 10, 2) := by decide +kernel
theorem dL_law_97 : decode cL_law 97 = .ok (.bipush 8, 2) := by decide +kernel
theorem dL_law_99 : decode cL_law 99 = .ok (.idiv, 1) := by decide +kernel
theorem dL_law_100 : decode cL_law 100 = .ok (.iload 7, 2) := by decide +kernel
theorem dL_law_102 : decode cL_law 102 = .ok (.irem, 1) := by decide +kernel
theorem dL_law_103 : decode cL_law 103 = .ok (.istore 11, 2) := by decide +kernel
theorem dL_law_105 : decode cL_law 105 = .ok (.iload 7, 2) := by decide +kernel
theorem dL_law_107 : decode cL_law 107 = .ok (.ifCond .ne 7, 3) := by decide +kernel
theorem dL_law_110 : decode cL_law 110 = .ok (.iconst 0, 1) := by decide +kernel
theorem dL_law_111 : decode cL_law 111 = .ok (.goto 8, 3) := by decide +kernel
theorem dL_law_114 : decode cL_law 114 = .ok (.iload 10, 2) := by decide +kernel
theorem dL_law_116 : decode cL_law 116 = .ok (.bipush 8, 2) := by decide +kernel
theorem dL_law_118 : decode cL_law 118 = .ok (.irem, 1) := by decide +kernel
theorem dL_law_119 : decode cL_law 119 = .ok (.istore 12, 2) := by decide +kernel
theorem dL_law_121 : decode cL_law 121 = .ok (.iload 12, 2) := by decide +kernel
theorem dL_law_123 : decode cL_law 123 = .ok (.iconst 2, 1) := by decide +kernel
theorem dL_law_124 : decode cL_law 124 = .ok (.if_icmp .ge 93, 3) := by decide +kernel
theorem dL_law_127 : decode cL_law 127 = .ok (.iload 7, 2) := by decide +kernel
theorem dL_law_129 : decode cL_law 129 = .ok (.bipush 24, 2) := by decide +kernel
theorem dL_law_131 : decode cL_law 131 = .ok (.if_icmp .ge 86, 3) := by decide +kernel
theorem dL_law_134 : decode cL_law 134 = .ok (.aload_n 1, 1) := by decide +kernel
theorem dL_law_135 : decode cL_law 135 = .ok (.iload 10, 2) := by decide +kernel
theorem dL_law_137 : decode cL_law 137 = .ok (.bipush 8, 2) := by decide +kernel
theorem dL_law_139 : decode cL_law 139 = .ok (.idiv, 1) := by decide +kernel
theorem dL_law_140 : decode cL_law 140 = .ok (.lload 5, 2) := by decide +kernel
theorem dL_law_142 : decode cL_law 142 = .ok (.invokestatic 54, 3) := by decide +kernel
theorem dL_law_145 : decode cL_law 145 = .ok (.aload 4, 2) := by decide +kernel
theorem dL_law_147 : decode cL_law 147 = .ok (.iload 7, 2) := by decide +kernel
theorem dL_law_149 : decode cL_law 149 = .ok (.aload_n 1, 1) := by decide +kernel
theorem dL_law_150 : decode cL_law 150 = .ok (.invokevirtual 58, 3) := by decide +kernel
theorem dL_law_153 : decode cL_law 153 = .ok (.iload 10, 2) := by decide +kernel
theorem dL_law_155 : decode cL_law 155 = .ok (.sipush 4096, 3) := by decide +kernel
theorem dL_law_158 : decode cL_law 158 = .ok (.idiv, 1) := by decide +kernel
theorem dL_law_159 : decode cL_law 159 = .ok (.iconst 4, 1) := by decide +kernel
theorem dL_law_160 : decode cL_law 160 = .ok (.irem, 1) := by decide +kernel
theorem dL_law_161 : decode cL_law 161 = .ok (.iadd, 1) := by decide +kernel
theorem dL_law_162 : decode cL_law 162 = .ok (.iastore, 1) := by decide +kernel
theorem dL_law_163 : decode cL_law 163 = .ok (.aload_n 1, 1) := by decide +kernel
theorem dL_law_164 : decode cL_law 164 = .ok (.iload 10, 2) := by decide +kernel
theorem dL_law_166 : decode cL_law 166 = .ok (.ldc 62, 2) := by decide +kernel
theorem dL_law_168 : decode cL_law 168 = .ok (.idiv, 1) := by decide +kernel
theorem dL_law_169 : decode cL_law 169 = .ok (.iconst 2, 1) := by decide +kernel
theorem dL_law_170 : decode cL_law 170 = .ok (.irem, 1) := by decide +kernel
theorem dL_law_171 : decode cL_law 171 = .ok (.aload 4, 2) := by decide +kernel
theorem dL_law_173 : decode cL_law 173 = .ok (.iload 7, 2) := by decide +kernel
theorem dL_law_175 : decode cL_law 175 = .ok (.iaload, 1) := by decide +kernel
theorem dL_law_176 : decode cL_law 176 = .ok (.invokevirtual 63, 3) := by decide +kernel
theorem dL_law_179 : decode cL_law 179 = .ok (.iload 7, 2) := by decide +kernel
theorem dL_law_181 : decode cL_law 181 = .ok (.if_icmp .ne 7, 3) := by decide +kernel
theorem dL_law_184 : decode cL_law 184 = .ok (.iconst 1, 1) := by decide +kernel
theorem dL_law_185 : decode cL_law 185 = .ok (.goto 4, 3) := by decide +kernel
theorem dL_law_188 : decode cL_law 188 = .ok (.iconst 0, 1) := by decide +kernel
theorem dL_law_189 : decode cL_law 189 = .ok (.istore 8, 2) := by decide +kernel
theorem dL_law_191 : decode cL_law 191 = .ok (.aload 4, 2) := by decide +kernel
theorem dL_law_193 : decode cL_law 193 = .ok (.iload 7, 2) := by decide +kernel
theorem dL_law_195 : decode cL_law 195 = .ok (.iaload, 1) := by decide +kernel
theorem dL_law_196 : decode cL_law 196 = .ok (.aload_n 1, 1) := by decide +kernel
theorem dL_law_197 : decode cL_law 197 = .ok (.invokevirtual 58, 3) := by decide +kernel
theorem dL_law_200 : decode cL_law 200 = .ok (.if_icmp .ne 11, 3) := by decide +kernel
theorem dL_law_203 : decode cL_law 203 = .ok (.aload_n 1, 1) := by decide +kernel
theorem dL_law_204 : decode cL_law 204 = .ok (.iload 7, 2) := by decide +kernel
theorem dL_law_206 : decode cL_law 206 = .ok (.aload_n 2, 1) := by decide +kernel
theorem dL_law_207 : decode cL_law 207 = .ok (.aload_n 3, 1) := by decide +kernel
theorem dL_law_208 : decode cL_law 208 = .ok (.invokestatic 38, 3) := by decide +kernel
theorem dL_law_211 : decode cL_law 211 = .ok (.iinc 7 1, 3) := by decide +kernel
theorem dL_law_214 : decode cL_law 214 = .ok (.goto 236, 3) := by decide +kernel
theorem dL_law_217 : decode cL_law 217 = .ok (.iload 12, 2) := by decide +kernel
theorem dL_law_219 : decode cL_law 219 = .ok (.iconst 2, 1) := by decide +kernel
theorem dL_law_220 : decode cL_law 220 = .ok (.if_icmp .ne 76, 3) := by decide +kernel
theorem dL_law_223 : decode cL_law 223 = .ok (.iload 7, 2) := by decide +kernel
theorem dL_law_225 : decode cL_law 225 = .ok (.ifCond .le 71, 3) := by decide +kernel
theorem dL_law_228 : decode cL_law 228 = .ok (.iconst 0, 1) := by decide +kernel
theorem dL_law_229 : decode cL_law 229 = .ok (.istore 13, 2) := by decide +kernel
theorem dL_law_231 : decode cL_law 231 = .ok (.iload 13, 2) := by decide +kernel
theorem dL_law_233 : decode cL_law 233 = .ok (.iconst 1, 1) := by decide +kernel
theorem dL_law_234 : decode cL_law 234 = .ok (.iload 10, 2) := by decide +kernel
theorem dL_law_236 : decode cL_law 236 = .ok (.bipush 8, 2) := by decide +kernel
theorem dL_law_238 : decode cL_law 238 = .ok (.idiv, 1) := by decide +kernel
theorem dL_law_239 : decode cL_law 239 = .ok (.iconst 3, 1) := by decide +kernel
theorem dL_law_240 : decode cL_law 240 = .ok (.irem, 1) := by decide +kernel
theorem dL_law_241 : decode cL_law 241 = .ok (.iadd, 1) := by decide +kernel
theorem dL_law_242 : decode cL_law 242 = .ok (.if_icmp .ge 51, 3) := by decide +kernel
theorem dL_law_245 : decode cL_law 245 = .ok (.aload_n 1, 1) := by decide +kernel
theorem dL_law_246 : decode cL_law 246 = .ok (.iconst 1, 1) := by decide +kernel
theorem dL_law_247 : decode cL_law 247 = .ok (.invokevirtual 66, 3) := by decide +kernel
theorem dL_law_250 : decode cL_law 250 = .ok (.pop, 1) := by decide +kernel
theorem dL_law_251 : decode cL_law 251 = .ok (.iconst 0, 1) := by decide +kernel
theorem dL_law_252 : decode cL_law 252 = .ok (.istore 14, 2) := by decide +kernel
theorem dL_law_254 : decode cL_law 254 = .ok (.iload 14, 2) := by decide +kernel
theorem dL_law_256 : decode cL_law 256 = .ok (.iload 7, 2) := by decide +kernel
theorem dL_law_258 : decode cL_law 258 = .ok (.if_icmp .ge 29, 3) := by decide +kernel
theorem dL_law_261 : decode cL_law 261 = .ok (.aload 4, 2) := by decide +kernel
theorem dL_law_263 : decode cL_law 263 = .ok (.iload 14, 2) := by decide +kernel
theorem dL_law_265 : decode cL_law 265 = .ok (.iaload, 1) := by decide +kernel
theorem dL_law_266 : decode cL_law 266 = .ok (.aload_n 1, 1) := by decide +kernel
theorem dL_law_267 : decode cL_law 267 = .ok (.invokevirtual 58, 3) := by decide +kernel
theorem dL_law_270 : decode cL_law 270 = .ok (.if_icmp .ne 11, 3) := by decide +kernel
theorem dL_law_273 : decode cL_law 273 = .ok (.aload_n 1, 1) := by decide +kernel
theorem dL_law_274 : decode cL_law 274 = .ok (.iload 14, 2) := by decide +kernel
theorem dL_law_276 : decode cL_law 276 = .ok (.aload_n 2, 1) := by decide +kernel
theorem dL_law_277 : decode cL_law 277 = .ok (.aload_n 3, 1) := by decide +kernel
theorem dL_law_278 : decode cL_law 278 = .ok (.invokestatic 38, 3) := by decide +kernel
theorem dL_law_281 : decode cL_law 281 = .ok (.iinc 14 1, 3) := by decide +kernel
theorem dL_law_284 : decode cL_law 284 = .ok (.goto (-30), 3) := by decide +kernel
theorem dL_law_287 : decode cL_law 287 = .ok (.iinc 13 1, 3) := by decide +kernel
theorem dL_law_290 : decode cL_law 290 = .ok (.goto (-59), 3) := by decide +kernel
theorem dL_law_293 : decode cL_law 293 = .ok (.goto 157, 3) := by decide +kernel
theorem dL_law_296 : decode cL_law 296 = .ok (.iload 12, 2) := by decide +kernel
theorem dL_law_298 : decode cL_law 298 = .ok (.iconst 3, 1) := by decide +kernel
theorem dL_law_299 : decode cL_law 299 = .ok (.if_icmp .ne 41, 3) := by decide +kernel
theorem dL_law_302 : decode cL_law 302 = .ok (.aload_n 1, 1) := by decide +kernel
theorem dL_law_303 : decode cL_law 303 = .ok (.iload 11, 2) := by decide +kernel
theorem dL_law_305 : decode cL_law 305 = .ok (.iconst 3, 1) := by decide +kernel
theorem dL_law_306 : decode cL_law 306 = .ok (.invokevirtual 9, 3) := by decide +kernel
theorem dL_law_309 : decode cL_law 309 = .ok (.ifCond .ne 31, 3) := by decide +kernel
theorem dL_law_312 : decode cL_law 312 = .ok (.aload_n 1, 1) := by decide +kernel
theorem dL_law_313 : decode cL_law 313 = .ok (.iload 11, 2) := by decide +kernel
theorem dL_law_315 : decode cL_law 315 = .ok (.invokevirtual 69, 3) := by decide +kernel
theorem dL_law_318 : decode cL_law 318 = .ok (.aload_n 1, 1) := by decide +kernel
theorem dL_law_319 : decode cL_law 319 = .ok (.iload 11, 2) := by decide +kernel
theorem dL_law_321 : decode cL_law 321 = .ok (.iconst 2, 1) := by decide +kernel
theorem dL_law_322 : decode cL_law 322 = .ok (.invokevirtual 9, 3) := by decide +kernel
theorem dL_law_325 : decode cL_law 325 = .ok (.iconst 1, 1) := by decide +kernel
theorem dL_law_326 : decode cL_law 326 = .ok (.if_icmp .ne 124, 3) := by decide +kernel
theorem dL_law_329 : decode cL_law 329 = .ok (.aload_n 1, 1) := by decide +kernel
theorem dL_law_330 : decode cL_law 330 = .ok (.iload 11, 2) := by decide +kernel
theorem dL_law_332 : decode cL_law 332 = .ok (.aload_n 2, 1) := by decide +kernel
theorem dL_law_333 : decode cL_law 333 = .ok (.aload_n 3, 1) := by decide +kernel
theorem dL_law_334 : decode cL_law 334 = .ok (.invokestatic 38, 3) := by decide +kernel
theorem dL_law_337 : decode cL_law 337 = .ok (.goto 113, 3) := by decide +kernel
theorem dL_law_340 : decode cL_law 340 = .ok (.iload 12, 2) := by decide +kernel
theorem dL_law_342 : decode cL_law 342 = .ok (.iconst 4, 1) := by decide +kernel
theorem dL_law_343 : decode cL_law 343 = .ok (.if_icmp .ne 57, 3) := by decide +kernel
theorem dL_law_346 : decode cL_law 346 = .ok (.lload 5, 2) := by decide +kernel
theorem dL_law_348 : decode cL_law 348 = .ok (.iload 10, 2) := by decide +kernel
theorem dL_law_350 : decode cL_law 350 = .ok (.bipush 8, 2) := by decide +kernel
theorem dL_law_352 : decode cL_law 352 = .ok (.idiv, 1) := by decide +kernel
theorem dL_law_353 : decode cL_law 353 = .ok (.bipush 10, 2) := by decide +kernel
theorem dL_law_355 : decode cL_law 355 = .ok (.irem, 1) := by decide +kernel
theorem dL_law_356 : decode cL_law 356 = .ok (.lshr, 1) := by decide +kernel
theorem dL_law_357 : decode cL_law 357 = .ok (.lconst 1, 1) := by decide +kernel
theorem dL_law_358 : decode cL_law 358 = .ok (.land, 1) := by decide +kernel
theorem dL_law_359 : decode cL_law 359 = .ok (.lconst 0, 1) := by decide +kernel
theorem dL_law_360 : decode cL_law 360 = .ok (.lcmp, 1) := by decide +kernel
theorem dL_law_361 : decode cL_law 361 = .ok (.ifCond .ne 39, 3) := by decide +kernel
theorem dL_law_364 : decode cL_law 364 = .ok (.aload_n 1, 1) := by decide +kernel
theorem dL_law_365 : decode cL_law 365 = .ok (.iload 7, 2) := by decide +kernel
theorem dL_law_367 : decode cL_law 367 = .ok (.iload 10, 2) := by decide +kernel
theorem dL_law_369 : decode cL_law 369 = .ok (.bipush 8, 2) := by decide +kernel
theorem dL_law_371 : decode cL_law 371 = .ok (.idiv, 1) := by decide +kernel
theorem dL_law_372 : decode cL_law 372 = .ok (.bipush 10, 2) := by decide +kernel
theorem dL_law_374 : decode cL_law 374 = .ok (.irem, 1) := by decide +kernel
theorem dL_law_375 : decode cL_law 375 = .ok (.aload_n 2, 1) := by decide +kernel
theorem dL_law_376 : decode cL_law 376 = .ok (.aload_n 3, 1) := by decide +kernel
theorem dL_law_377 : decode cL_law 377 = .ok (.invokestatic 73, 3) := by decide +kernel
theorem dL_law_380 : decode cL_law 380 = .ok (.istore 8, 2) := by decide +kernel
theorem dL_law_382 : decode cL_law 382 = .ok (.lload 5, 2) := by decide +kernel
theorem dL_law_384 : decode cL_law 384 = .ok (.lconst 1, 1) := by decide +kernel
theorem dL_law_385 : decode cL_law 385 = .ok (.iload 10, 2) := by decide +kernel
theorem dL_law_387 : decode cL_law 387 = .ok (.bipush 8, 2) := by decide +kernel
theorem dL_law_389 : decode cL_law 389 = .ok (.idiv, 1) := by decide +kernel
theorem dL_law_390 : decode cL_law 390 = .ok (.bipush 10, 2) := by decide +kernel
theorem dL_law_392 : decode cL_law 392 = .ok (.irem, 1) := by decide +kernel
theorem dL_law_393 : decode cL_law 393 = .ok (.lshl, 1) := by decide +kernel
theorem dL_law_394 : decode cL_law 394 = .ok (.lor, 1) := by decide +kernel
theorem dL_law_395 : decode cL_law 395 = .ok (.lstore 5, 2) := by decide +kernel
theorem dL_law_397 : decode cL_law 397 = .ok (.goto 53, 3) := by decide +kernel
theorem dL_law_400 : decode cL_law 400 = .ok (.iload 12, 2) := by decide +kernel
theorem dL_law_402 : decode cL_law 402 = .ok (.iconst 5, 1) := by decide +kernel
theorem dL_law_403 : decode cL_law 403 = .ok (.if_icmp .eq 10, 3) := by decide +kernel
theorem dL_law_406 : decode cL_law 406 = .ok (.iload 12, 2) := by decide +kernel
theorem dL_law_408 : decode cL_law 408 = .ok (.bipush 6, 2) := by decide +kernel
theorem dL_law_410 : decode cL_law 410 = .ok (.if_icmp .ne 18, 3) := by decide +kernel
theorem dL_law_413 : decode cL_law 413 = .ok (.aload_n 1, 1) := by decide +kernel
theorem dL_law_414 : decode cL_law 414 = .ok (.iload 11, 2) := by decide +kernel
theorem dL_law_416 : decode cL_law 416 = .ok (.iload 10, 2) := by decide +kernel
theorem dL_law_418 : decode cL_law 418 = .ok (.aload_n 2, 1) := by decide +kernel
theorem dL_law_419 : decode cL_law 419 = .ok (.aload_n 3, 1) := by decide +kernel
theorem dL_law_420 : decode cL_law 420 = .ok (.invokestatic 77, 3) := by decide +kernel
theorem dL_law_423 : decode cL_law 423 = .ok (.istore 8, 2) := by decide +kernel
theorem dL_law_425 : decode cL_law 425 = .ok (.goto 25, 3) := by decide +kernel
theorem dL_law_428 : decode cL_law 428 = .ok (.iload 12, 2) := by decide +kernel
theorem dL_law_430 : decode cL_law 430 = .ok (.bipush 7, 2) := by decide +kernel
theorem dL_law_432 : decode cL_law 432 = .ok (.if_icmp .ne 18, 3) := by decide +kernel
theorem dL_law_435 : decode cL_law 435 = .ok (.aload_n 1, 1) := by decide +kernel
theorem dL_law_436 : decode cL_law 436 = .ok (.iload 10, 2) := by decide +kernel
theorem dL_law_438 : decode cL_law 438 = .ok (.bipush 8, 2) := by decide +kernel
theorem dL_law_440 : decode cL_law 440 = .ok (.idiv, 1) := by decide +kernel
theorem dL_law_441 : decode cL_law 441 = .ok (.iconst 2, 1) := by decide +kernel
theorem dL_law_442 : decode cL_law 442 = .ok (.irem, 1) := by decide +kernel
theorem dL_law_443 : decode cL_law 443 = .ok (.aload_n 2, 1) := by decide +kernel
theorem dL_law_444 : decode cL_law 444 = .ok (.aload_n 3, 1) := by decide +kernel
theorem dL_law_445 : decode cL_law 445 = .ok (.invokestatic 80, 3) := by decide +kernel
theorem dL_law_448 : decode cL_law 448 = .ok (.istore 8, 2) := by decide +kernel
theorem dL_law_450 : decode cL_law 450 = .ok (.iconst 0, 1) := by decide +kernel
theorem dL_law_451 : decode cL_law 451 = .ok (.istore 13, 2) := by decide +kernel
theorem dL_law_453 : decode cL_law 453 = .ok (.iload 13, 2) := by decide +kernel
theorem dL_law_455 : decode cL_law 455 = .ok (.iload 7, 2) := by decide +kernel
theorem dL_law_457 : decode cL_law 457 = .ok (.if_icmp .ge 57, 3) := by decide +kernel
theorem dL_law_460 : decode cL_law 460 = .ok (.iload 8, 2) := by decide +kernel
theorem dL_law_462 : decode cL_law 462 = .ok (.ifCond .eq 43, 3) := by decide +kernel
theorem dL_law_465 : decode cL_law 465 = .ok (.aload_n 1, 1) := by decide +kernel
theorem dL_law_466 : decode cL_law 466 = .ok (.iload 13, 2) := by decide +kernel
theorem dL_law_468 : decode cL_law 468 = .ok (.iconst 2, 1) := by decide +kernel
theorem dL_law_469 : decode cL_law 469 = .ok (.invokevirtual 9, 3) := by decide +kernel
theorem dL_law_472 : decode cL_law 472 = .ok (.iconst 1, 1) := by decide +kernel
theorem dL_law_473 : decode cL_law 473 = .ok (.if_icmp .ne 7, 3) := by decide +kernel
theorem dL_law_476 : decode cL_law 476 = .ok (.iconst 1, 1) := by decide +kernel
theorem dL_law_477 : decode cL_law 477 = .ok (.goto 4, 3) := by decide +kernel
theorem dL_law_480 : decode cL_law 480 = .ok (.iconst 0, 1) := by decide +kernel
theorem dL_law_481 : decode cL_law 481 = .ok (.aload 4, 2) := by decide +kernel
theorem dL_law_483 : decode cL_law 483 = .ok (.iload 13, 2) := by decide +kernel
theorem dL_law_485 : decode cL_law 485 = .ok (.iaload, 1) := by decide +kernel
theorem dL_law_486 : decode cL_law 486 = .ok (.aload_n 1, 1) := by decide +kernel
theorem dL_law_487 : decode cL_law 487 = .ok (.invokevirtual 58, 3) := by decide +kernel
theorem dL_law_490 : decode cL_law 490 = .ok (.if_icmp .gt 7, 3) := by decide +kernel
theorem dL_law_493 : decode cL_law 493 = .ok (.iconst 1, 1) := by decide +kernel
theorem dL_law_494 : decode cL_law 494 = .ok (.goto 4, 3) := by decide +kernel
theorem dL_law_497 : decode cL_law 497 = .ok (.iconst 0, 1) := by decide +kernel
theorem dL_law_498 : decode cL_law 498 = .ok (.if_icmp .ne 7, 3) := by decide +kernel
theorem dL_law_501 : decode cL_law 501 = .ok (.iconst 1, 1) := by decide +kernel
theorem dL_law_502 : decode cL_law 502 = .ok (.goto 4, 3) := by decide +kernel
theorem dL_law_505 : decode cL_law 505 = .ok (.iconst 0, 1) := by decide +kernel
theorem dL_law_506 : decode cL_law 506 = .ok (.istore 8, 2) := by decide +kernel
theorem dL_law_508 : decode cL_law 508 = .ok (.iinc 13 1, 3) := by decide +kernel
theorem dL_law_511 : decode cL_law 511 = .ok (.goto (-58), 3) := by decide +kernel
theorem dL_law_514 : decode cL_law 514 = .ok (.iinc 9 1, 3) := by decide +kernel
theorem dL_law_517 : decode cL_law 517 = .ok (.goto (-451), 3) := by decide +kernel
theorem dL_law_520 : decode cL_law 520 = .ok (.iload 8, 2) := by decide +kernel
theorem dL_law_522 : decode cL_law 522 = .ok (.ifCond .eq 45, 3) := by decide +kernel
theorem dL_law_525 : decode cL_law 525 = .ok (.aload_n 1, 1) := by decide +kernel
theorem dL_law_526 : decode cL_law 526 = .ok (.iconst 0, 1) := by decide +kernel
theorem dL_law_527 : decode cL_law 527 = .ok (.aload_n 2, 1) := by decide +kernel
theorem dL_law_528 : decode cL_law 528 = .ok (.aload_n 3, 1) := by decide +kernel
theorem dL_law_529 : decode cL_law 529 = .ok (.invokestatic 80, 3) := by decide +kernel
theorem dL_law_532 : decode cL_law 532 = .ok (.ifCond .eq 35, 3) := by decide +kernel
theorem dL_law_535 : decode cL_law 535 = .ok (.aload_n 1, 1) := by decide +kernel
theorem dL_law_536 : decode cL_law 536 = .ok (.iconst 1, 1) := by decide +kernel
theorem dL_law_537 : decode cL_law 537 = .ok (.aload_n 2, 1) := by decide +kernel
theorem dL_law_538 : decode cL_law 538 = .ok (.aload_n 3, 1) := by decide +kernel
theorem dL_law_539 : decode cL_law 539 = .ok (.invokestatic 80, 3) := by decide +kernel
theorem dL_law_542 : decode cL_law 542 = .ok (.ifCond .eq 25, 3) := by decide +kernel
theorem dL_law_545 : decode cL_law 545 = .ok (.aload_n 1, 1) := by decide +kernel
theorem dL_law_546 : decode cL_law 546 = .ok (.iconst 0, 1) := by decide +kernel
theorem dL_law_547 : decode cL_law 547 = .ok (.invokevirtual 15, 3) := by decide +kernel
theorem dL_law_550 : decode cL_law 550 = .ok (.ifCond .ne 17, 3) := by decide +kernel
theorem dL_law_553 : decode cL_law 553 = .ok (.aload_n 1, 1) := by decide +kernel
theorem dL_law_554 : decode cL_law 554 = .ok (.iconst 0, 1) := by decide +kernel
theorem dL_law_555 : decode cL_law 555 = .ok (.iconst 0, 1) := by decide +kernel
theorem dL_law_556 : decode cL_law 556 = .ok (.invokevirtual 19, 3) := by decide +kernel
theorem dL_law_559 : decode cL_law 559 = .ok (.iconst (-1), 1) := by decide +kernel
theorem dL_law_560 : decode cL_law 560 = .ok (.if_icmp .ne 7, 3) := by decide +kernel
theorem dL_law_563 : decode cL_law 563 = .ok (.iconst 1, 1) := by decide +kernel
theorem dL_law_564 : decode cL_law 564 = .ok (.goto 4, 3) := by decide +kernel
theorem dL_law_567 : decode cL_law 567 = .ok (.iconst 0, 1) := by decide +kernel
theorem dL_law_568 : decode cL_law 568 = .ok (.ireturn, 1) := by decide +kernel
end
section
/-! THE PLAIN LAYER (1): a heap as a partial function, what it says of the machine's heap -/
abbrev za_E : Type := (FieldType × vp_A) ⊕ (Nat × List Value)
abbrev za_H : Type := Nat → Option za_E
abbrev za_L : Type := List (Option Value)
def za_up (h : za_H) (a : Nat) (e : za_E) : za_H := fun q => if q = a then some e else h q
theorem za_up_s (h : za_H) (a : Nat) (e : za_E) : za_up h a e a = some e := if_pos rfl
theorem za_up_n (h : za_H) {a q : Nat} (e : za_E) (n : q ≠ a) : za_up h a e q = h q := if_neg n
/-- launch, the law's own start, the classes' numbers and slots, the address of the list's empty row, that of the class object of Object rows, that of the script -/
abbrev za_G : Type := Launch × State × va_G × Nat × Nat × Nat
abbrev za_G.l (G : za_G) : Launch := G.1
abbrev za_G.s (G : za_G) : State := G.2.1
abbrev za_G.D (G : za_G) : va_G := G.2.2.1
abbrev za_G.t (G : za_G) : Nat := G.2.2.2.1
abbrev za_G.mi (G : za_G) : Nat := G.2.2.2.2.1
abbrev za_G.sc (G : za_G) : Nat := G.2.2.2.2.2
def za_b (G : za_G) : Nat := G.s.heap.size
/-- the cells that may be spoken of: the new ones and the script -/
def za_A (G : za_G) : Nat → Prop := fun q => za_b G ≤ q ∨ q = G.sc
/-- a row of ints: of its cell only what it holds is known (the script's may have a monitor) -/
def za_cyc (G : za_G) (a n : Nat) (f : Nat → Int32) (H : Heap) : Prop := ∃ cell : Cell, H[a]? = some cell ∧ G.s.isArrayOf cell .int ∧ cell.vm ≠ .unknown ∧ cell.slots = (arrV 0 n (fun j => .int (f j))).slots
def za_cy (G : za_G) (a : Nat) (x : FieldType × vp_A) (H : Heap) : Prop := (∃ cA, ArrOfT G.s cA x.1 ∧ va_RA G.s cA x.1 ∧ H[a]? = some (vp_cell cA x.2)) ∨ ∃ n f, x = (.int, n, .inl f) ∧ za_cyc G a n f H
theorem za_cyn {G : za_G} {a : Nat} {x : FieldType × vp_A} {H : Heap} (h : za_cy G a x H) (hn : x.1 ≠ .int) : ∃ cA, ArrOfT G.s cA x.1 ∧ va_RA G.s cA x.1 ∧ H[a]? = some (vp_cell cA x.2) := by
  rcases h with h | ⟨n, f, rfl, -⟩
  · exact h
  · exact absurd rfl hn
theorem za_cyi {G : za_G} {a n : Nat} {f : Nat → Int32} {H : Heap} (h : za_cy G a (.int, n, .inl f) H) : za_cyc G a n f H := by
  rcases h with ⟨cA, h1, -, h3⟩ | ⟨n', f', e, h⟩
  · exact ⟨_, h3, h1 n (fun j => .int (f j)), (fun q => by cases q), rfl⟩
  · cases e
    exact h
def za_c (G : za_G) (a : Nat) (e : za_E) (H : Heap) : Prop := match e with
  | .inl x => za_cy G a x H
  | .inr o => ∃ r : vw_C, vwCl[o.1]? = some r ∧ t_OB a (G.D.1 o.1) r.2.2 (G.D.2 o.1) H (vp_V o.2)
def za_R (G : za_G) (h : za_H) (H : Heap) : Prop := ∀ a e, h a = some e → za_A G a ∧ za_c G a e H
/-- q is new -/
def za_nn (G : za_G) (h : za_H) (q : Nat) : Prop := h q = none ∧ q ≠ G.t
def za_K (G : za_G) (H : Heap) : Prop := za_b G ≤ H.size ∧ ∀ q, ¬ za_A G q → H[q]? = G.s.heap[q]?
def za_W (G : za_G) (U : State) : Prop := G.s.WarmedH U.vm ∧ za_K G U.heap
/-- what is known of the start -/
def za_F (G : za_G) : Prop := G.l.stackTraces = false ∧ (∃ A0 : Array Value, ∀ w ∈ lw_tbl, w.before A0 G.s = true) ∧ va_K G.D vwCl [] G.s ∧
  va_Z "java/util/ArrayList" "DEFAULTCAPACITY_EMPTY_ELEMENTDATA" "[Ljava/lang/Object;" (.ref G.t) (za_A G) G.s G.s.heap ∧ va_T (.object "java/lang/Object") G.t 0 (fun _ => .null) (za_A G) G.s G.s.heap ∧
  vx_Zq Bundle.tN "UNASSIGNED_STACK" Bundle.steD (za_A G) G.s G.s.heap ∧ vx_Zq Bundle.tN "SUPPRESSED_SENTINEL" Bundle.listD (za_A G) G.s G.s.heap ∧
  (∀ k tx, Cond.stringRef RX7 k tx ∈ lw_tbl → ∃ sa, vk_R RX7 k tx sa G.s) ∧ (∀ k tx, Cond.stringRef RX3 k tx ∈ lw_tbl → ∃ sa, vk_R RX3 k tx sa G.s) ∧
  va_Mi "[Ljava/lang/Object;" G.mi G.s ∧
  (∀ x y : String, x ∈ ["java/lang/IllegalArgumentException", "java/lang/IllegalStateException", "java/lang/IndexOutOfBoundsException"] → y ∈ ["java/lang/IllegalArgumentException", "java/lang/IllegalStateException", "java/lang/IndexOutOfBoundsException"] → x ≠ y → va_Nc x y G.s)
theorem za_word {G : za_G} (F : za_F G) {s : State} (hW : G.s.WarmedH s.vm) {w : Cond} (hw : w ∈ lw_tbl) (hg : goodWord w = true) (args : Array Value) : w.before args s = true := by
  obtain ⟨A0, h⟩ := F.2.1
  exact word_at hW (good_of_word hg) (h w hw)
theorem za_c.kept {G : za_G} {a : Nat} {e : za_E} {H H1 : Heap} (h : za_c G a e H) (hq : H1[a]? = H[a]?) : za_c G a e H1 := by
  cases e with
  | inl x =>
    rcases h with ⟨cA, h1, h2, h3⟩ | ⟨n, f, e, cell, h1, h2⟩
    · exact Or.inl ⟨cA, h1, h2, hq.trans h3⟩
    · exact Or.inr ⟨n, f, e, cell, hq.trans h1, h2⟩
  | inr o => obtain ⟨r, h1, h2⟩ := h; exact ⟨r, h1, h2.kept hq⟩
theorem za_c.lt {G : za_G} {a : Nat} {e : za_E} {H : Heap} (h : za_c G a e H) : a < H.size := by
  cases e with
  | inl x =>
    rcases h with ⟨cA, h1, h2, h3⟩ | ⟨n, f, e, cell, h1, h2⟩
    · exact (Array.getElem?_eq_some_iff.mp h3).1
    · exact (Array.getElem?_eq_some_iff.mp h1).1
  | inr o => obtain ⟨r, h1, cell, h2, -⟩ := h; exact (Array.getElem?_eq_some_iff.mp h2).1
theorem za_R.lt {G : za_G} {h : za_H} {H : Heap} (hR : za_R G h H) {a : Nat} {e : za_E} (ha : h a = some e) : a < H.size := (hR a e ha).2.lt
theorem za_R.new {G : za_G} {h : za_H} {H : Heap} (hR : za_R G h H) {a : Nat} (ha : H.size ≤ a) : h a = none := by
  cases hh : h a with
  | none => rfl
  | some e => exact absurd (hR.lt hh) (by omega)
theorem za_R.set {G : za_G} {h : za_H} {H H1 : Heap} (hR : za_R G h H) {a : Nat} {e0 e : za_E} (ha : h a = some e0) (he : za_c G a e H1) (oq : ∀ q : Nat, q ≠ a → H1[q]? = H[q]?) : za_R G (za_up h a e) H1 := by
  intro q x hx
  unfold za_up at hx
  by_cases hq : q = a
  · subst hq
    rw [if_pos rfl] at hx
    cases hx
    exact ⟨(hR _ _ ha).1, he⟩
  · rw [if_neg hq] at hx
    exact ⟨(hR q x hx).1, (hR q x hx).2.kept (oq q hq)⟩
theorem za_K.set {G : za_G} {H H1 : Heap} (hK : za_K G H) {a : Nat} (ha : za_A G a) (z : H1.size = H.size) (oq : ∀ q : Nat, q ≠ a → H1[q]? = H[q]?) : za_K G H1 :=
  ⟨by rw [z]; exact hK.1, fun q hq => by rw [oq q (fun z => hq (by rw [z]; exact ha))]; exact hK.2 q hq⟩
theorem za_R.push {G : za_G} {h : za_H} {H H1 : Heap} (hR : za_R G h H) (hK : za_K G H) {e : za_E} (he : za_c G H.size e H1) (oq : ∀ q : Nat, q < H.size → H1[q]? = H[q]?) : za_R G (za_up h H.size e) H1 := by
  intro q x hx
  unfold za_up at hx
  by_cases hq : q = H.size
  · subst hq
    rw [if_pos rfl] at hx
    cases hx
    exact ⟨Or.inl hK.1, he⟩
  · rw [if_neg hq] at hx
    exact ⟨(hR q x hx).1, (hR q x hx).2.kept (oq q (hR.lt hx))⟩
theorem za_R.grow {G : za_G} {h : za_H} {H H1 : Heap} (hR : za_R G h H) (oq : ∀ q : Nat, q < H.size → H1[q]? = H[q]?) : za_R G h H1 :=
  fun q x hx => ⟨(hR q x hx).1, (hR q x hx).2.kept (oq q (hR.lt hx))⟩
theorem za_K.push {G : za_G} {H H1 : Heap} (hK : za_K G H) (z : H.size ≤ H1.size) (oq : ∀ q : Nat, q < H.size → H1[q]? = H[q]?) : za_K G H1 :=
  ⟨Nat.le_trans hK.1 z, fun q hq => by rw [oq q (Nat.lt_of_lt_of_le (Nat.lt_of_not_le fun y => hq (Or.inl y)) hK.1)]; exact hK.2 q hq⟩
theorem za_K.S {G : za_G} {H : Heap} {locs : List Loc} {s : State} (hK : za_K G H) (hs : za_K G s.heap) (hz : s.heap.size ≤ H.size) (hl : ∀ z ∈ locs, za_b G ≤ z.base) : True := trivial
/-- the locals: a long stands at its first slot, and behind it nothing -/
def za_l (n : Nat) (lv : za_L) (ls : Array Slot) : Prop := lv.length = n ∧ ∃ A, lv_has ls n A ∧ ∀ i v, lv[i]? = some (some v) → (v.category = 1 ∨ lv[i + 1]? = some none) → (i, v) ∈ A
theorem za_l.at {n : Nat} {lv : za_L} {ls : Array Slot} (h : za_l n lv ls) {i : Nat} {v : Value} (hi : lv[i]? = some (some v)) (hc : v.category = 1 ∨ lv[i + 1]? = some none) : ls[i]? = some (.val v) := by
  obtain ⟨-, A, h1, h2⟩ := h
  exact h1.2.2 (i, v) (h2 i v hi hc)
theorem za_l.size {n : Nat} {lv : za_L} {ls : Array Slot} (h : za_l n lv ls) : ls.size = n := by
  obtain ⟨-, A, h1, -⟩ := h
  exact h1.1
theorem za_l.put {n : Nat} {lv : za_L} {i : Nat} {v : Value} (hl : lv.length = n) {A : List (Nat × Value)} (h2 : ∀ i v, lv[i]? = some (some v) → (v.category = 1 ∨ lv[i + 1]? = some none) → (i, v) ∈ A) {ls' : Array Slot} (h : lv_has ls' n ((i, v) :: A.filter (fun q => !(q.1 == i) && !(q.1 + 1 == i && q.2.category == 2)))) : za_l n (lv.set i (some v)) ls' := by
  refine ⟨by rw [List.length_set]; exact hl, _, h, fun j w hj hw => ?_⟩
  by_cases hji : j = i
  · subst hji
    rw [List.getElem?_set] at hj
    simp only [if_true] at hj
    split at hj
    · cases hj
      exact List.mem_cons_self
    · cases hj
  · rw [List.getElem?_set_ne (Ne.symm hji)] at hj
    rcases hw with hw | hw
    · exact List.mem_cons_of_mem _ (List.mem_filter.mpr ⟨h2 j w hj (Or.inl hw), by simp [hji, hw]⟩)
    · by_cases hj1 : j + 1 = i
      · subst hj1
        rw [List.getElem?_set] at hw
        simp only [if_true] at hw
        split at hw
        · cases hw
        · cases hw
      · rw [List.getElem?_set_ne (Ne.symm hj1)] at hw
        exact List.mem_cons_of_mem _ (List.mem_filter.mpr ⟨h2 j w hj (Or.inr hw), by simp [hji, hj1]⟩)
theorem za_l.put2 {n : Nat} {lv : za_L} {i : Nat} {x : Int64} (hl : lv.length = n) {A : List (Nat × Value)} (h2 : ∀ i v, lv[i]? = some (some v) → (v.category = 1 ∨ lv[i + 1]? = some none) → (i, v) ∈ A) {ls' : Array Slot} (h : lv_has ls' n ((i, .long x) :: A.filter (fun q => !(q.1 == i) && (!(q.1 == i + 1) && !(q.1 + 1 == i && q.2.category == 2))))) : za_l n ((lv.set i (some (.long x))).set (i + 1) none) ls' := by
  refine ⟨by rw [List.length_set, List.length_set]; exact hl, _, h, fun j w hj hw => ?_⟩
  by_cases hj1 : j = i + 1
  · subst hj1
    rw [List.getElem?_set] at hj
    simp only [if_true] at hj
    split at hj
    · cases hj
    · cases hj
  · rw [List.getElem?_set_ne (Ne.symm hj1)] at hj
    by_cases hji : j = i
    · subst hji
      rw [List.getElem?_set] at hj
      simp only [if_true] at hj
      split at hj
      · cases hj
        exact List.mem_cons_self
      · cases hj
    · rw [List.getElem?_set_ne (Ne.symm hji)] at hj
      rcases hw with hw | hw
      · exact List.mem_cons_of_mem _ (List.mem_filter.mpr ⟨h2 j w hj (Or.inl hw), by simp [hji, hj1, hw]⟩)
      · rw [List.getElem?_set_ne (fun z => hji (by omega))] at hw
        by_cases hj2 : j + 1 = i
        · subst hj2
          rw [List.getElem?_set] at hw
          simp only [if_true] at hw
          split at hw
          · cases hw
          · cases hw
        · rw [List.getElem?_set_ne (Ne.symm hj2)] at hw
          exact List.mem_cons_of_mem _ (List.mem_filter.mpr ⟨h2 j w hj (Or.inr hw), by simp [hji, hj1, hj2]⟩)
/-- the locals at a method's entry -/
def za_la : List Value → za_L
  | [] => []
  | v :: vs => if v.category = 2 then some v :: none :: za_la vs else some v :: za_la vs
theorem za_la_len (as : List Value) : (za_la as).length = (lg_sl as).length := by
  induction as with
  | nil => rfl
  | cons v vs ih =>
    have e : lg_sl (v :: vs) = (if v.category = 2 then [Slot.val v, Slot.second] else [Slot.val v]) ++ lg_sl vs := rfl
    rw [e]
    unfold za_la
    split <;> simp [ih]
theorem za_la_in (as : List Value) : ∀ (k i : Nat) (v : Value), (za_la as)[i]? = some (some v) → (k + i, v) ∈ lv_args k as := by
  induction as with
  | nil => intro k i v h; simp [za_la] at h
  | cons w ws ih =>
    intro k i v h
    unfold za_la at h
    by_cases hc : w.category = 2
    · rw [if_pos hc] at h
      match i with
      | 0 => simp at h; subst h; simp [lv_args]
      | 1 => simp at h
      | i + 2 =>
        simp at h
        have := ih (k + 2) i v h
        have e2 : k + (i + 2) = k + 2 + i := by omega
        rw [e2]
        simp only [lv_args, hc, if_true]
        exact List.mem_cons_of_mem _ this
    · rw [if_neg hc] at h
      match i with
      | 0 => simp at h; subst h; simp [lv_args]
      | i + 1 =>
        simp at h
        have := ih (k + 1) i v h
        have e2 : k + (i + 1) = k + 1 + i := by omega
        rw [e2]
        simp only [lv_args, hc, if_false]
        exact List.mem_cons_of_mem _ this
theorem za_l.entry2 (as : List Value) (n : Nat) (hn : (lg_sl as).length ≤ n) : za_l n (za_la as ++ List.replicate (n - (za_la as).length) none) ((lg_sl as ++ List.replicate (n - (lg_sl as).length) Slot.unset).toArray) := by
  refine ⟨by rw [List.length_append, List.length_replicate, za_la_len]; omega, _, lv_entry as hn, fun i v hi _ => ?_⟩
  rw [List.getElem?_append] at hi
  split at hi
  · have := za_la_in as 0 i v hi
    simpa using this
  · have := List.eq_of_mem_replicate (List.mem_of_getElem? hi)
    cases this
theorem za_la_1 (as : List Value) (hc : ∀ v ∈ as, v.category = 1) : za_la as = as.map some ∧ lg_sl as = as.map Slot.val := by
  induction as with
  | nil => exact ⟨rfl, rfl⟩
  | cons v vs ih =>
    have h1 : v.category = 1 := hc v List.mem_cons_self
    have h2 := ih (fun w hw => hc w (List.mem_cons_of_mem _ hw))
    have e : lg_sl (v :: vs) = (if v.category = 2 then [Slot.val v, Slot.second] else [Slot.val v]) ++ lg_sl vs := rfl
    rw [e, h2.2]
    unfold za_la
    rw [h2.1]
    simp [h1]
theorem za_l.entry (as : List Value) (n : Nat) (hn : as.length ≤ n) (hc : ∀ v ∈ as, v.category = 1) : za_l n (as.map some ++ List.replicate (n - as.length) none) ((as.map Slot.val ++ List.replicate (n - as.length) Slot.unset).toArray) := by
  obtain ⟨e1, e2⟩ := za_la_1 as hc
  have h := za_l.entry2 as n (by rw [e2]; simpa using hn)
  rw [e1, e2] at h
  simpa using h
end
section
/-! THE PLAIN LAYER (2): methods, links, the judgement of a point of a method's body, its rows -/
/-- a method: its name, code, locals, answer's type, its handlers (start, end, handler, pool's index), frames below it -/
abbrev za_M : Type := MethodName × ByteArray × Nat × Option FieldType × List (Nat × Nat × Nat × Nat) × Nat
abbrev za_M.y (M : za_M) : MethodName := M.1
abbrev za_M.cc (M : za_M) : ByteArray := M.2.1
abbrev za_M.nL (M : za_M) : Nat := M.2.2.1
abbrev za_M.ret (M : za_M) : Option FieldType := M.2.2.2.1
abbrev za_M.hh (M : za_M) : List (Nat × Nat × Nat × Nat) := M.2.2.2.2.1
abbrev za_M.fr (M : za_M) : Nat := M.2.2.2.2.2
def za_cw (M : za_M) : Cond := match M.hh with
  | [] => .code M.y M.cc M.nL M.ret
  | _ :: _ => .codeWith M.y M.cc M.nL M.ret M.hh
/-- the exceptions' names -/
def za_e (k : Nat) : String := match k with
  | 0 => "java/lang/IllegalArgumentException"
  | 1 => "java/lang/IllegalStateException"
  | _ => "java/lang/IndexOutOfBoundsException"
abbrev za_O : Type := Option Value ⊕ Nat
def za_rm (fr mc ms : Nat) : Room := { frames := fr, cells := mc, slots := ms, locals := 39 * fr }
def za_Pc (G : za_G) (as : List Value) (h : za_H) : Array Value → State → Prop := fun v U => v = as.toArray ∧ za_W G U ∧ za_R G h U.heap
def za_Qc (G : za_G) (K : za_O → za_H → Prop) : Array Value → State → Outcome → State → Prop := fun _ _ o t => ∃ (v : Option Value) (h' : za_H), o = .returned v ∧ K (.inl v) h' ∧ za_R G h' t.heap ∧ za_K G t.heap
def za_Xc (G : za_G) (K : za_O → za_H → Prop) : String → State → State → Prop := fun E _ t => ∃ (k : Nat) (h' : za_H), E = za_e k ∧ K (.inr k) h' ∧ za_R G h' t.heap ∧ za_K G t.heap
/-- method M, called with as in the heap h, makes at most mc cells of ms slots and comes to an outcome of K -/
def za_P (G : za_G) (M : za_M) (as : List Value) (h : za_H) (mc ms : Nat) (K : za_O → za_H → Prop) : Prop :=
  vx_Met G.l M.y [za_cw M] (za_rm M.fr mc ms) (za_Pc G as h) (za_Qc G K) (za_Xc G K) mc ms (za_A G)
theorem za_P.mono {G : za_G} {M : za_M} {as : List Value} {h : za_H} {mc ms : Nat} {K K' : za_O → za_H → Prop} (hP : za_P G M as h mc ms K) (hk : ∀ o h', K o h' → K' o h') : za_P G M as h mc ms K' := by
  intro p e ha hc hk2 s m args below hf happ hPc hKK
  obtain ⟨n, o, h1, h2, h3, h4⟩ := hP p e ha hc hk2 s m args below hf happ hPc hKK
  refine ⟨n, o, h1, h2, h3, ?_⟩
  rcases h4 with ⟨⟨v, h', e1, e2, e3⟩, h5⟩ | ⟨q, e1, E, ce, L, ⟨k, h', f1, f2, f3⟩, h6⟩
  · exact Or.inl ⟨⟨v, h', e1, hk _ _ e2, e3⟩, h5⟩
  · exact Or.inr ⟨q, e1, E, ce, L, ⟨k, h', f1, hk _ _ f2, f3⟩, h6⟩
/-- a method's run: start's facts, what it owes -/
abbrev za_C : Type := za_G × za_M × Nat × Nat × (za_O → za_H → Prop) × Program × Env × State × MethodId × Array Value × List Frame × Method × Code
abbrev za_C.G (C : za_C) : za_G := C.1
abbrev za_C.M (C : za_C) : za_M := C.2.1
abbrev za_C.mc (C : za_C) : Nat := C.2.2.1
abbrev za_C.ms (C : za_C) : Nat := C.2.2.2.1
abbrev za_C.K (C : za_C) : za_O → za_H → Prop := C.2.2.2.2.1
abbrev za_C.p (C : za_C) : Program := C.2.2.2.2.2.1
abbrev za_C.e (C : za_C) : Env := C.2.2.2.2.2.2.1
abbrev za_C.s (C : za_C) : State := C.2.2.2.2.2.2.2.1
abbrev za_C.m (C : za_C) : MethodId := C.2.2.2.2.2.2.2.2.1
abbrev za_C.args (C : za_C) : Array Value := C.2.2.2.2.2.2.2.2.2.1
abbrev za_C.below (C : za_C) : List Frame := C.2.2.2.2.2.2.2.2.2.2.1
abbrev za_C.meth (C : za_C) : Method := C.2.2.2.2.2.2.2.2.2.2.2.1
abbrev za_C.c (C : za_C) : Code := C.2.2.2.2.2.2.2.2.2.2.2.2
def za_R0 (C : za_C) : Room := za_rm C.M.fr C.mc C.ms
def za_Q0 (C : za_C) : State → Prop := vx_MQ C.below (za_Qc C.G C.K) (za_Xc C.G C.K) C.args C.s C.mc C.ms (za_A C.G)
def za_w (C : za_C) (pc : Nat) (ls : za_L) (st : List Value) (h : za_H) (cells slots : Nat) : Prop :=
  ∀ (H : Heap) (locs : List Loc) (L : Array Slot), za_R C.G h H → za_K C.G H → (∀ z ∈ locs, za_A C.G z.base) → za_l C.M.nL ls L → W C.p C.G.l C.e (za_R0 C) C.s C.m C.args C.below C.meth C.c H locs cells slots (za_Q0 C) (F0 C.m pc L st)
/-- own: the class whose code it is -/
def za_X (C : za_C) : Prop :=
  C.p.tables.exec = Jvm.exec ∧ C.c.code = C.M.cc ∧ C.c.maxLocals = C.M.nL ∧ C.s.vm.findClass C.M.y.cls = some C.m.cls ∧ C.meth.locks = false ∧ za_W C.G C.s ∧ za_F C.G ∧ C.meth.name = C.M.y.name ∧ C.meth.sig.returnType = C.M.ret ∧ C.c.exceptionTable.toList = tableOf C.M.hh
section ZB
variable {C : za_C} {pc : Nat} {ls : za_L} {st : List Value} {h : za_H} {cells slots : Nat}
theorem za_iconst (X : za_X C) {n : Int} (d : decode C.M.cc pc = .ok (.iconst n, 1)) (k : za_w C (pc + 1) ls (.int (Int32.ofInt n) :: st) h cells slots) : za_w C pc ls st h cells slots := fun H locs L hR hK hl hL => lv_iconst X.1 X.2.1 d rfl (k H locs L hR hK hl hL)
theorem za_bipush (X : za_X C) {n : Int} (d : decode C.M.cc pc = .ok (.bipush n, 2)) (k : za_w C (pc + 2) ls (.int (Int8.ofInt n).toInt32 :: st) h cells slots) : za_w C pc ls st h cells slots := fun H locs L hR hK hl hL => lv_bipush X.1 X.2.1 d rfl (k H locs L hR hK hl hL)
theorem za_sipush (X : za_X C) {n : Int} (d : decode C.M.cc pc = .ok (.sipush n, 3)) (k : za_w C (pc + 3) ls (.int (Int16.ofInt n).toInt32 :: st) h cells slots) : za_w C pc ls st h cells slots := fun H locs L hR hK hl hL => lv_sipush X.1 X.2.1 d rfl (k H locs L hR hK hl hL)
theorem za_lconst (X : za_X C) {n : Fin 2} (d : decode C.M.cc pc = .ok (.lconst n, 1)) (k : za_w C (pc + 1) ls (.long (Int64.ofNat (n : Nat)) :: st) h cells slots) : za_w C pc ls st h cells slots := fun H locs L hR hK hl hL => lv_lconst X.1 X.2.1 d rfl (k H locs L hR hK hl hL)
theorem za_null (X : za_X C) (d : decode C.M.cc pc = .ok (.aconst_null, 1)) (k : za_w C (pc + 1) ls (.null :: st) h cells slots) : za_w C pc ls st h cells slots := fun H locs L hR hK hl hL => lv_null X.1 X.2.1 d (k H locs L hR hK hl hL)
theorem za_iload_n (X : za_X C) {n : Fin 4} {x : Int32} (d : decode C.M.cc pc = .ok (.iload_n n, 1)) (hi : ls[(n : Nat)]? = some (some (.int x))) (k : za_w C (pc + 1) ls (.int x :: st) h cells slots) : za_w C pc ls st h cells slots := fun H locs L hR hK hl hL => lv_iload_n X.1 X.2.1 d rfl (hL.at hi (Or.inl rfl)) (k H locs L hR hK hl hL)
theorem za_iload (X : za_X C) {i : Nat} {x : Int32} (d : decode C.M.cc pc = .ok (.iload i, 2)) (hi : ls[i]? = some (some (.int x))) (k : za_w C (pc + 2) ls (.int x :: st) h cells slots) : za_w C pc ls st h cells slots := fun H locs L hR hK hl hL => lv_iload X.1 X.2.1 d (hL.at hi (Or.inl rfl)) (k H locs L hR hK hl hL)
/-- a reference or null -/
def za_rf (v : Value) : Prop := v = .null ∨ ∃ a, v = .ref a
theorem za_aload_n (X : za_X C) {n : Fin 4} {v : Value} (d : decode C.M.cc pc = .ok (.aload_n n, 1)) (hi : ls[(n : Nat)]? = some (some v)) (hv : za_rf v) (k : za_w C (pc + 1) ls (v :: st) h cells slots) : za_w C pc ls st h cells slots := fun H locs L hR hK hl hL => by
  rcases hv with rfl | ⟨a, rfl⟩
  · exact lv_aload_nN X.1 X.2.1 d rfl (hL.at hi (Or.inl rfl)) (k H locs L hR hK hl hL)
  · exact lv_aload_n X.1 X.2.1 d rfl (hL.at hi (Or.inl rfl)) (k H locs L hR hK hl hL)
theorem za_aload (X : za_X C) {i : Nat} {v : Value} (d : decode C.M.cc pc = .ok (.aload i, 2)) (hi : ls[i]? = some (some v)) (hv : za_rf v) (k : za_w C (pc + 2) ls (v :: st) h cells slots) : za_w C pc ls st h cells slots := fun H locs L hR hK hl hL => by
  rcases hv with rfl | ⟨a, rfl⟩
  · exact lv_aloadN X.1 X.2.1 d (hL.at hi (Or.inl rfl)) (k H locs L hR hK hl hL)
  · exact lv_aload X.1 X.2.1 d (hL.at hi (Or.inl rfl)) (k H locs L hR hK hl hL)
theorem za_istore_n (X : za_X C) {n : Fin 4} {x : Int32} (d : decode C.M.cc pc = .ok (.istore_n n, 1)) (hi : (n : Nat) < ls.length) (k : za_w C (pc + 1) (ls.set n (some (.int x))) st h cells slots) : za_w C pc ls (.int x :: st) h cells slots := fun H locs L hR hK hl hL => by
  obtain ⟨h1, A, h2, h3⟩ := hL
  exact lv_istore_n X.1 X.2.1 d rfl h2 (by omega) rfl (fun L' hL' => k H locs L' hR hK hl (za_l.put h1 h3 hL'))
theorem za_istore (X : za_X C) {i : Nat} {x : Int32} (d : decode C.M.cc pc = .ok (.istore i, 2)) (hi : i < ls.length) (k : za_w C (pc + 2) (ls.set i (some (.int x))) st h cells slots) : za_w C pc ls (.int x :: st) h cells slots := fun H locs L hR hK hl hL => by
  obtain ⟨h1, A, h2, h3⟩ := hL
  exact lv_istore X.1 X.2.1 d h2 (by omega) rfl (fun L' hL' => k H locs L' hR hK hl (za_l.put h1 h3 hL'))
theorem za_astore_n (X : za_X C) {n : Fin 4} {v : Value} (d : decode C.M.cc pc = .ok (.astore_n n, 1)) (hi : (n : Nat) < ls.length) (hv : za_rf v) (k : za_w C (pc + 1) (ls.set n (some v)) st h cells slots) : za_w C pc ls (v :: st) h cells slots := fun H locs L hR hK hl hL => by
  obtain ⟨h1, A, h2, h3⟩ := hL
  rcases hv with rfl | ⟨a, rfl⟩
  · exact lv_astore_nN X.1 X.2.1 d rfl h2 (by omega) rfl (fun L' hL' => k H locs L' hR hK hl (za_l.put h1 h3 hL'))
  · exact lv_astore_n X.1 X.2.1 d rfl h2 (by omega) rfl (fun L' hL' => k H locs L' hR hK hl (za_l.put h1 h3 hL'))
theorem za_astore (X : za_X C) {i : Nat} {v : Value} (d : decode C.M.cc pc = .ok (.astore i, 2)) (hi : i < ls.length) (hv : za_rf v) (k : za_w C (pc + 2) (ls.set i (some v)) st h cells slots) : za_w C pc ls (v :: st) h cells slots := fun H locs L hR hK hl hL => by
  obtain ⟨h1, A, h2, h3⟩ := hL
  rcases hv with rfl | ⟨a, rfl⟩
  · exact lv_astoreN X.1 X.2.1 d h2 (by omega) rfl (fun L' hL' => k H locs L' hR hK hl (za_l.put h1 h3 hL'))
  · exact lv_astore X.1 X.2.1 d h2 (by omega) rfl (fun L' hL' => k H locs L' hR hK hl (za_l.put h1 h3 hL'))
theorem za_iinc (X : za_X C) {i : Nat} {n : Int} {x : Int32} (d : decode C.M.cc pc = .ok (.iinc i n, 3)) (hi : ls[i]? = some (some (.int x))) (k : za_w C (pc + 3) (ls.set i (some (.int (x + Int32.ofInt n)))) st h cells slots) : za_w C pc ls st h cells slots := fun H locs L hR hK hl hL => by
  obtain ⟨h1, A, h2, h3⟩ := hL
  obtain ⟨j, hj⟩ := List.getElem?_of_mem (h3 i _ hi (Or.inl rfl))
  have hlt : i < ls.length := (List.getElem?_eq_some_iff.mp hi).1
  exact lv_iinc X.1 X.2.1 d h2 hj rfl (by omega) rfl (fun L' hL' => k H locs L' hR hK hl (za_l.put h1 h3 hL'))
theorem za_iadd (X : za_X C) {x y : Int32} (d : decode C.M.cc pc = .ok (.iadd, 1)) (k : za_w C (pc + 1) ls (.int (x + y) :: st) h cells slots) : za_w C pc ls (.int y :: .int x :: st) h cells slots := fun H locs L hR hK hl hL => lv_iadd X.1 X.2.1 d (k H locs L hR hK hl hL)
theorem za_isub (X : za_X C) {x y : Int32} (d : decode C.M.cc pc = .ok (.isub, 1)) (k : za_w C (pc + 1) ls (.int (x - y) :: st) h cells slots) : za_w C pc ls (.int y :: .int x :: st) h cells slots := fun H locs L hR hK hl hL => lv_isub X.1 X.2.1 d (k H locs L hR hK hl hL)
theorem za_imul (X : za_X C) {x y : Int32} (d : decode C.M.cc pc = .ok (.imul, 1)) (k : za_w C (pc + 1) ls (.int (x * y) :: st) h cells slots) : za_w C pc ls (.int y :: .int x :: st) h cells slots := fun H locs L hR hK hl hL => lv_imul X.1 X.2.1 d (k H locs L hR hK hl hL)
theorem za_idiv (X : za_X C) {x y : Int32} (d : decode C.M.cc pc = .ok (.idiv, 1)) (hy : ¬ y = 0) (k : za_w C (pc + 1) ls (.int (x / y) :: st) h cells slots) : za_w C pc ls (.int y :: .int x :: st) h cells slots := fun H locs L hR hK hl hL => lv_idiv X.1 X.2.1 d hy (k H locs L hR hK hl hL)
theorem za_iand (X : za_X C) {x y : Int32} (d : decode C.M.cc pc = .ok (.iand, 1)) (k : za_w C (pc + 1) ls (.int (x &&& y) :: st) h cells slots) : za_w C pc ls (.int y :: .int x :: st) h cells slots := fun H locs L hR hK hl hL => lv_iand X.1 X.2.1 d (k H locs L hR hK hl hL)
theorem za_ior (X : za_X C) {x y : Int32} (d : decode C.M.cc pc = .ok (.ior, 1)) (k : za_w C (pc + 1) ls (.int (x ||| y) :: st) h cells slots) : za_w C pc ls (.int y :: .int x :: st) h cells slots := fun H locs L hR hK hl hL => lv_ior X.1 X.2.1 d (k H locs L hR hK hl hL)
theorem za_ixor (X : za_X C) {x y : Int32} (d : decode C.M.cc pc = .ok (.ixor, 1)) (k : za_w C (pc + 1) ls (.int (x ^^^ y) :: st) h cells slots) : za_w C pc ls (.int y :: .int x :: st) h cells slots := fun H locs L hR hK hl hL => lv_ixor X.1 X.2.1 d (k H locs L hR hK hl hL)
theorem za_ishl (X : za_X C) {x y : Int32} (d : decode C.M.cc pc = .ok (.ishl, 1)) (k : za_w C (pc + 1) ls (.int (x <<< (y &&& 31)) :: st) h cells slots) : za_w C pc ls (.int y :: .int x :: st) h cells slots := fun H locs L hR hK hl hL => lv_ishl X.1 X.2.1 d (k H locs L hR hK hl hL)
theorem za_ishr (X : za_X C) {x y : Int32} (d : decode C.M.cc pc = .ok (.ishr, 1)) (k : za_w C (pc + 1) ls (.int (x >>> (y &&& 31)) :: st) h cells slots) : za_w C pc ls (.int y :: .int x :: st) h cells slots := fun H locs L hR hK hl hL => lv_ishr X.1 X.2.1 d (k H locs L hR hK hl hL)
theorem za_i2l (X : za_X C) {x : Int32} (d : decode C.M.cc pc = .ok (.i2l, 1)) (k : za_w C (pc + 1) ls (.long x.toInt64 :: st) h cells slots) : za_w C pc ls (.int x :: st) h cells slots := fun H locs L hR hK hl hL => lv_i2l X.1 X.2.1 d rfl (k H locs L hR hK hl hL)
theorem za_lcmp (X : za_X C) {x y : Int64} (d : decode C.M.cc pc = .ok (.lcmp, 1)) (k : za_w C (pc + 1) ls (.int (lg_cmp x y) :: st) h cells slots) : za_w C pc ls (.long y :: .long x :: st) h cells slots := fun H locs L hR hK hl hL => W.lcmp X.1 X.2.1 d (k H locs L hR hK hl hL)
theorem za_dup (X : za_X C) {v : Value} (d : decode C.M.cc pc = .ok (.dup, 1)) (hv : v.category = 1) (k : za_w C (pc + 1) ls (v :: v :: st) h cells slots) : za_w C pc ls (v :: st) h cells slots := fun H locs L hR hK hl hL => lv_dup X.1 X.2.1 d hv (k H locs L hR hK hl hL)
theorem za_dup_x1 (X : za_X C) {v w : Value} (d : decode C.M.cc pc = .ok (.dup_x1, 1)) (hv : v.category = 1) (hw : w.category = 1) (k : za_w C (pc + 1) ls (v :: w :: v :: st) h cells slots) : za_w C pc ls (v :: w :: st) h cells slots := fun H locs L hR hK hl hL => lv_dup_x1 X.1 X.2.1 d hv hw (k H locs L hR hK hl hL)
theorem za_dup2 (X : za_X C) {v w : Value} (d : decode C.M.cc pc = .ok (.dup2, 1)) (hv : v.category = 1) (hw : w.category = 1) (k : za_w C (pc + 1) ls (v :: w :: v :: w :: st) h cells slots) : za_w C pc ls (v :: w :: st) h cells slots := fun H locs L hR hK hl hL => lv_dup2_11 X.1 X.2.1 d hv hw (k H locs L hR hK hl hL)
theorem za_pop (X : za_X C) {v : Value} (d : decode C.M.cc pc = .ok (.pop, 1)) (hv : v.category = 1) (k : za_w C (pc + 1) ls st h cells slots) : za_w C pc ls (v :: st) h cells slots := fun H locs L hR hK hl hL => lv_pop X.1 X.2.1 d hv (k H locs L hR hK hl hL)
theorem za_goto (X : za_X C) {off : Int} {tgt : Nat} (d : decode C.M.cc pc = .ok (.goto off, 3)) (ht : (pc : Int) + off = (tgt : Int)) (k : za_w C tgt ls st h cells slots) : za_w C pc ls st h cells slots := fun H locs L hR hK hl hL => lv_goto X.1 X.2.1 d ht (k H locs L hR hK hl hL)
/-- what a comparison of ints says -/
def za_cd (op : ClassFile.Cond) (x y : Int32) : Prop := match op with
  | .eq => x = y
  | .ne => ¬ x = y
  | .lt => x < y
  | .ge => y ≤ x
  | .gt => y < x
  | .le => x ≤ y
theorem za_icmp (X : za_X C) {op : ClassFile.Cond} {x y : Int32} {off : Int} {tgt : Nat} (d : decode C.M.cc pc = .ok (.if_icmp op off, 3)) (ht : (pc : Int) + off = (tgt : Int)) (kt : za_cd op x y → za_w C tgt ls st h cells slots) (kf : ¬ za_cd op x y → za_w C (pc + 3) ls st h cells slots) : za_w C pc ls (.int y :: .int x :: st) h cells slots := fun H locs L hR hK hl hL => by
  cases op
  · exact lv_icmp_eq X.1 X.2.1 d ht (fun z => kt z H locs L hR hK hl hL) (fun z => kf z H locs L hR hK hl hL)
  · exact lv_icmp_ne X.1 X.2.1 d ht (fun z => kt z H locs L hR hK hl hL) (fun z => kf (fun w => w z) H locs L hR hK hl hL)
  · exact lv_icmp_lt X.1 X.2.1 d ht (fun z => kt z H locs L hR hK hl hL) (fun z => kf z H locs L hR hK hl hL)
  · exact lv_icmp_ge X.1 X.2.1 d ht (fun z => kt z H locs L hR hK hl hL) (fun z => kf z H locs L hR hK hl hL)
  · exact lv_icmp_gt X.1 X.2.1 d ht (fun z => kt z H locs L hR hK hl hL) (fun z => kf z H locs L hR hK hl hL)
  · exact lv_icmp_le X.1 X.2.1 d ht (fun z => kt z H locs L hR hK hl hL) (fun z => kf z H locs L hR hK hl hL)
theorem za_ifc (X : za_X C) {op : ClassFile.Cond} {x : Int32} {off : Int} {tgt : Nat} (d : decode C.M.cc pc = .ok (.ifCond op off, 3)) (ht : (pc : Int) + off = (tgt : Int)) (kt : za_cd op x 0 → za_w C tgt ls st h cells slots) (kf : ¬ za_cd op x 0 → za_w C (pc + 3) ls st h cells slots) : za_w C pc ls (.int x :: st) h cells slots := fun H locs L hR hK hl hL => by
  cases op
  · exact lv_if_eq X.1 X.2.1 d ht (fun z => kt z H locs L hR hK hl hL) (fun z => kf z H locs L hR hK hl hL)
  · exact lv_if_ne X.1 X.2.1 d ht (fun z => kt z H locs L hR hK hl hL) (fun z => kf (fun w => w z) H locs L hR hK hl hL)
  · exact lv_if_lt X.1 X.2.1 d ht (fun z => kt z H locs L hR hK hl hL) (fun z => kf z H locs L hR hK hl hL)
  · exact lv_if_ge X.1 X.2.1 d ht (fun z => kt z H locs L hR hK hl hL) (fun z => kf z H locs L hR hK hl hL)
  · exact lv_if_gt X.1 X.2.1 d ht (fun z => kt z H locs L hR hK hl hL) (fun z => kf z H locs L hR hK hl hL)
  · exact lv_if_le X.1 X.2.1 d ht (fun z => kt z H locs L hR hK hl hL) (fun z => kf z H locs L hR hK hl hL)
theorem za_nonnull (X : za_X C) {v : Value} {off : Int} {tgt : Nat} (d : decode C.M.cc pc = .ok (.ifnonnull off, 3)) (ht : (pc : Int) + off = (tgt : Int)) (hv : za_rf v) (kt : ¬ v = .null → za_w C tgt ls st h cells slots) (kf : v = .null → za_w C (pc + 3) ls st h cells slots) : za_w C pc ls (v :: st) h cells slots := fun H locs L hR hK hl hL => by
  rcases hv with rfl | ⟨a, rfl⟩
  · exact lv_ifnonnullN X.1 X.2.1 d (kf rfl H locs L hR hK hl hL)
  · exact lv_ifnonnull X.1 X.2.1 d ht (kt (fun z => by cases z) H locs L hR hK hl hL)
theorem za_acmp_eq (X : za_X C) {v w : Value} {off : Int} {tgt : Nat} (d : decode C.M.cc pc = .ok (.if_acmp .eq off, 3)) (ht : (pc : Int) + off = (tgt : Int)) (hv : za_rf v) (hw : za_rf w) (kt : v = w → za_w C tgt ls st h cells slots) (kf : ¬ v = w → za_w C (pc + 3) ls st h cells slots) : za_w C pc ls (w :: v :: st) h cells slots := fun H locs L hR hK hl hL => by
  have f : ∀ v, za_rf v → ∃ r, v = va_rf r := fun v h => by
    rcases h with rfl | ⟨a, rfl⟩
    · exact ⟨none, rfl⟩
    · exact ⟨some a, rfl⟩
  have inj : ∀ r r' : Option Nat, va_rf r = va_rf r' → r = r' := fun r r' z => by cases r <;> cases r' <;> cases z <;> rfl
  obtain ⟨r, rfl⟩ := f v hv
  obtain ⟨r', rfl⟩ := f w hw
  exact lv_acmp_eq X.1 X.2.1 d ht (fun z => kt (by rw [z]) H locs L hR hK hl hL) (fun z => kf (fun q => z (inj _ _ q)) H locs L hR hK hl hL)
theorem za_acmp_ne (X : za_X C) {v w : Value} {off : Int} {tgt : Nat} (d : decode C.M.cc pc = .ok (.if_acmp .ne off, 3)) (ht : (pc : Int) + off = (tgt : Int)) (hv : za_rf v) (hw : za_rf w) (kt : ¬ v = w → za_w C tgt ls st h cells slots) (kf : v = w → za_w C (pc + 3) ls st h cells slots) : za_w C pc ls (w :: v :: st) h cells slots := fun H locs L hR hK hl hL => by
  have f : ∀ v, za_rf v → ∃ r, v = va_rf r := fun v h => by
    rcases h with rfl | ⟨a, rfl⟩
    · exact ⟨none, rfl⟩
    · exact ⟨some a, rfl⟩
  have inj : ∀ r r' : Option Nat, va_rf r = va_rf r' → r = r' := fun r r' z => by cases r <;> cases r' <;> cases z <;> rfl
  obtain ⟨r, rfl⟩ := f v hv
  obtain ⟨r', rfl⟩ := f w hw
  exact lv_acmp_ne X.1 X.2.1 d ht (fun z => kt (fun q => z (inj _ _ q)) H locs L hR hK hl hL) (fun z => kf (by rw [z]) H locs L hR hK hl hL)
theorem za_tableIn (X : za_X C) {dflt lo hi : Int} {offs : Array Int} {len : Nat} {x : Int32} {off : Int} {tgt : Nat} (d : decode C.M.cc pc = .ok (.tableswitch dflt lo hi offs, len)) (h1 : ¬ x.toInt < lo) (h2 : ¬ hi < x.toInt) (ho : offs[(x.toInt - lo).toNat]? = some off) (ht : (pc : Int) + off = (tgt : Int)) (k : za_w C tgt ls st h cells slots) : za_w C pc ls (.int x :: st) h cells slots := fun H locs L hR hK hl hL => lv_tableIn X.1 X.2.1 d h1 h2 ho ht (k H locs L hR hK hl hL)
theorem za_tableOut (X : za_X C) {dflt lo hi : Int} {offs : Array Int} {len : Nat} {x : Int32} {tgt : Nat} (d : decode C.M.cc pc = .ok (.tableswitch dflt lo hi offs, len)) (h1 : x.toInt < lo ∨ hi < x.toInt) (ht : (pc : Int) + dflt = (tgt : Int)) (k : za_w C tgt ls st h cells slots) : za_w C pc ls (.int x :: st) h cells slots := fun H locs L hR hK hl hL => lv_tableOut X.1 X.2.1 d h1 ht (k H locs L hR hK hl hL)
theorem za_irem (X : za_X C) {x y : Int32} (d : decode C.M.cc pc = .ok (.irem, 1)) (hy : ¬ y = 0) (k : za_w C (pc + 1) ls (.int (x - x / y * y) :: st) h cells slots) : za_w C pc ls (.int y :: .int x :: st) h cells slots := fun H locs L hR hK hl hL => lv_irem X.1 X.2.1 d hy (k H locs L hR hK hl hL)
theorem za_land (X : za_X C) {x y : Int64} (d : decode C.M.cc pc = .ok (.land, 1)) (k : za_w C (pc + 1) ls (.long (x &&& y) :: st) h cells slots) : za_w C pc ls (.long y :: .long x :: st) h cells slots := fun H locs L hR hK hl hL => lv_land X.1 X.2.1 d (k H locs L hR hK hl hL)
theorem za_lor (X : za_X C) {x y : Int64} (d : decode C.M.cc pc = .ok (.lor, 1)) (k : za_w C (pc + 1) ls (.long (x ||| y) :: st) h cells slots) : za_w C pc ls (.long y :: .long x :: st) h cells slots := fun H locs L hR hK hl hL => lv_lor X.1 X.2.1 d (k H locs L hR hK hl hL)
theorem za_lshl (X : za_X C) {x : Int64} {y : Int32} (d : decode C.M.cc pc = .ok (.lshl, 1)) (k : za_w C (pc + 1) ls (.long (x <<< (y.toInt64 &&& 63)) :: st) h cells slots) : za_w C pc ls (.int y :: .long x :: st) h cells slots := fun H locs L hR hK hl hL => lv_lshl X.1 X.2.1 d rfl (k H locs L hR hK hl hL)
theorem za_lshr (X : za_X C) {x : Int64} {y : Int32} (d : decode C.M.cc pc = .ok (.lshr, 1)) (k : za_w C (pc + 1) ls (.long (x >>> (y.toInt64 &&& 63)) :: st) h cells slots) : za_w C pc ls (.int y :: .long x :: st) h cells slots := fun H locs L hR hK hl hL => lv_lshr X.1 X.2.1 d rfl (k H locs L hR hK hl hL)
theorem za_lload_n (X : za_X C) {n : Fin 4} {x : Int64} (d : decode C.M.cc pc = .ok (.lload_n n, 1)) (hi : ls[(n : Nat)]? = some (some (.long x))) (hc : ls[(n : Nat) + 1]? = some none) (k : za_w C (pc + 1) ls (.long x :: st) h cells slots) : za_w C pc ls st h cells slots := fun H locs L hR hK hl hL => lv_lload_n X.1 X.2.1 d rfl (hL.at hi (Or.inr hc)) (k H locs L hR hK hl hL)
theorem za_lload (X : za_X C) {i : Nat} {x : Int64} (d : decode C.M.cc pc = .ok (.lload i, 2)) (hi : ls[i]? = some (some (.long x))) (hc : ls[i + 1]? = some none) (k : za_w C (pc + 2) ls (.long x :: st) h cells slots) : za_w C pc ls st h cells slots := fun H locs L hR hK hl hL => lv_lload X.1 X.2.1 d (hL.at hi (Or.inr hc)) (k H locs L hR hK hl hL)
theorem za_lstore (X : za_X C) {i : Nat} {x : Int64} (d : decode C.M.cc pc = .ok (.lstore i, 2)) (hi : i + 1 < ls.length) (k : za_w C (pc + 2) ((ls.set i (some (.long x))).set (i + 1) none) st h cells slots) : za_w C pc ls (.long x :: st) h cells slots := fun H locs L hR hK hl hL => by
  obtain ⟨h1, A, h2, h3⟩ := hL
  exact lv_lstore X.1 X.2.1 d h2 (by omega) rfl (fun L' hL' => k H locs L' hR hK hl (za_l.put2 h1 h3 hL'))
end ZB
end
section
/-! THE PLAIN LAYER (3): rows that touch the heap -/
section ZC
variable {C : za_C} {pc : Nat} {ls : za_L} {st : List Value} {h : za_H} {cells slots : Nat}
theorem za_al (X : za_X C) : C.G.s.vm.Alike C.s.vm := X.2.2.2.2.2.1.1.alike
theorem za_wd (X : za_X C) {w : Cond} (hw : w ∈ lw_tbl) (hg : goodWord w = true) : w.before C.args C.s = true := za_word X.2.2.2.2.2.2.1 X.2.2.2.2.2.1.1 hw hg _
theorem za_kK (X : za_X C) : va_K C.G.D vwCl [] C.s := va_K.moved (za_al X) X.2.2.2.2.2.2.1.2.2.1
theorem za_arr (X : za_X C) {H : Heap} (hR : za_R C.G h H) {a : Nat} {x : FieldType × vp_A} (ha : h a = some (.inl x)) (hn : x.1 ≠ .int) : ∃ cA, ArrOfT C.s cA x.1 ∧ va_RA C.s cA x.1 ∧ H[a]? = some (vp_cell cA x.2) := by
  obtain ⟨cA, h1, h2, h3⟩ := za_cyn (hR a _ ha).2 hn
  exact ⟨cA, arrOfT_moved (za_al X) h1, h2.moved (za_al X), h3⟩
theorem za_arri (X : za_X C) {H : Heap} (hR : za_R C.G h H) {a n : Nat} {f : Nat → Int32} (ha : h a = some (.inl (.int, n, .inl f))) : ∃ cell : Cell, H[a]? = some cell ∧ C.s.isArrayOf cell .int ∧ cell.vm ≠ .unknown ∧ cell.slots = (arrV 0 n (fun j => .int (f j))).slots := by
  obtain ⟨cell, h1, h2, h3⟩ := za_cyi (hR a _ ha).2
  exact ⟨cell, h1, State.isArrayOf_alike (za_al X) h2, h3⟩
theorem za_nlt {i : Int32} {n : Nat} (hin : vp_in i n) : i.toNatClampNeg < n := Nat.not_le.mp fun q => hin (Or.inr q)
theorem za_iald (X : za_X C) {a n : Nat} {f : Nat → Int32} {i : Int32} (d : decode C.M.cc pc = .ok (.iaload, 1)) (ha : h a = some (.inl (.int, n, .inl f))) (hin : vp_in i n) (k : za_w C (pc + 1) ls (.int (f i.toNatClampNeg) :: st) h cells slots) : za_w C pc ls (.int i :: .ref a :: st) h cells slots := fun H locs L hR hK hl hL => by
  obtain ⟨cell, h1, h2, h3, h4⟩ := za_arri X hR ha
  exact W.iald (v := .int (f i.toNatClampNeg)) X.1 X.2.1 h1 h2 h3 (by rw [h4, arrV_size]; exact hin) (by rw [h4, arrV_read _ _ (za_nlt hin)]) rfl rfl d (k H locs L hR hK hl hL)
theorem za_zald (X : za_X C) {a n : Nat} {f : Nat → Int32} {i : Int32} (d : decode C.M.cc pc = .ok (.baload, 1)) (ha : h a = some (.inl (.boolean, n, .inl f))) (hin : vp_in i n) (k : za_w C (pc + 1) ls (.int (f i.toNatClampNeg) :: st) h cells slots) : za_w C pc ls (.int i :: .ref a :: st) h cells slots := fun H locs L hR hK hl hL => by
  obtain ⟨cA, h1, h2, h3⟩ := za_arr X hR ha (fun q => by cases q)
  exact W.zald (v := .int (f i.toNatClampNeg)) X.1 X.2.1 h3 (h1 n (fun j => .int (f j))) (fun q => by cases q) (by show ¬ (i < 0 ∨ (arrV _ _ _).slots.size ≤ _); rw [arrV_size]; exact hin) (by show (arrV _ _ _).slots[_]? = _; rw [arrV_read _ _ (za_nlt hin)]) rfl rfl d (k H locs L hR hK hl hL)
theorem za_lald (X : za_X C) {a n : Nat} {f : Nat → Int64} {i : Int32} (d : decode C.M.cc pc = .ok (.laload, 1)) (ha : h a = some (.inl (.long, n, .inr (.inl f)))) (hin : vp_in i n) (k : za_w C (pc + 1) ls (.long (f i.toNatClampNeg) :: st) h cells slots) : za_w C pc ls (.int i :: .ref a :: st) h cells slots := fun H locs L hR hK hl hL => by
  obtain ⟨cA, h1, h2, h3⟩ := za_arr X hR ha (fun q => by cases q)
  exact W.lald (v := .long (f i.toNatClampNeg)) X.1 X.2.1 h3 (h1 n (fun j => .long (f j))) (fun q => by cases q) (by show ¬ (i < 0 ∨ (arrV _ _ _).slots.size ≤ _); rw [arrV_size]; exact hin) (by show (arrV _ _ _).slots[_]? = _; rw [arrV_read _ _ (za_nlt hin)]) rfl rfl d (k H locs L hR hK hl hL)
theorem za_aald (X : za_X C) {a n : Nat} {E : String} {f : Nat → Option Nat} {i : Int32} (d : decode C.M.cc pc = .ok (.aaload, 1)) (ha : h a = some (.inl (.object E, n, .inr (.inr (.inr (.inr f)))))) (hin : vp_in i n) (k : za_w C (pc + 1) ls (va_rf (f i.toNatClampNeg) :: st) h cells slots) : za_w C pc ls (.int i :: .ref a :: st) h cells slots := fun H locs L hR hK hl hL => by
  obtain ⟨cA, h1, h2, h3⟩ := za_arr X hR ha (fun q => by cases q)
  exact W.aald (v := va_rf (f i.toNatClampNeg)) (ty := .object E) X.1 X.2.1 h3 (h1 n (fun j => va_rf (f j))) rfl (fun q => by cases q) (by show ¬ (i < 0 ∨ (arrV _ _ _).slots.size ≤ _); rw [arrV_size]; exact hin) (by show (arrV _ _ _).slots[_]? = _; rw [arrV_read _ _ (za_nlt hin)]) rfl rfl d (k H locs L hR hK hl hL)
theorem za_locs {G : za_G} {locs : List Loc} {a i : Nat} (hl : ∀ z ∈ locs, za_A G z.base) (ha : za_A G a) : ∀ z ∈ locs ++ [(⟨a, i⟩ : Loc)], za_A G z.base := fun z hz => by
  rcases List.mem_append.mp hz with q | q
  · exact hl z q
  · rw [List.mem_singleton.mp q]; exact ha
theorem za_iast (X : za_X C) {a n : Nat} {f : Nat → Int32} {i x : Int32} (d : decode C.M.cc pc = .ok (.iastore, 1)) (ha : h a = some (.inl (.int, n, .inl f))) (hin : vp_in i n) (k : za_w C (pc + 1) ls st (za_up h a (.inl (.int, n, .inl (upd f i.toNatClampNeg x)))) cells slots) : za_w C pc ls (.int x :: .int i :: .ref a :: st) h cells slots := fun H locs L hR hK hl hL => by
  obtain ⟨cell, h1, h2, h3, h4⟩ := za_arri X hR ha
  obtain ⟨hA, hc⟩ := hR a _ ha
  obtain ⟨cell', g1, g2, g3, g4⟩ := za_cyi hc
  have ec : cell' = cell := Option.some.inj (g1.symm.trans h1)
  subst ec
  refine W.iast X.1 X.2.1 h1 h2 h3 (by rw [h4, arrV_size]; exact hin) rfl rfl d fun H1 e z oq => ?_
  refine k H1 _ L (hR.set ha (Or.inr ⟨n, _, rfl, _, e, g2, g3, ?_⟩) oq) (hK.set hA z oq) (za_locs hl hA) hL
  show cell'.slots.setIfInBounds _ _ = _
  rw [h4]
  have ea := congrArg Cell.slots (arrV_store 0 n i.toNatClampNeg (fun j => .int (f j)) (.int x))
  refine ea.trans ?_
  congr 2
  funext q
  by_cases hq : q = i.toNatClampNeg
  · subst hq; simp [updV, upd]
  · simp [updV, upd, hq]
theorem za_zast (X : za_X C) {a n : Nat} {f : Nat → Int32} {i x : Int32} (d : decode C.M.cc pc = .ok (.bastore, 1)) (ha : h a = some (.inl (.boolean, n, .inl f))) (hin : vp_in i n) (hx : x = 0 ∨ x = 1) (k : za_w C (pc + 1) ls st (za_up h a (.inl (.boolean, n, .inl (upd f i.toNatClampNeg x)))) cells slots) : za_w C pc ls (.int x :: .int i :: .ref a :: st) h cells slots := fun H locs L hR hK hl hL => by
  obtain ⟨cA, h1, h2, h3⟩ := za_arr X hR ha (fun q => by cases q)
  obtain ⟨hb, hc⟩ := hR a _ ha
  obtain ⟨cA', h1', h2', h3'⟩ := za_cyn hc (fun q => by cases q)
  have hA := hb
  have hnx : vp_nar .boolean x = x := by rcases hx with rfl | rfl <;> rfl
  refine W.zast X.1 X.2.1 h3 (h1 n (fun j => .int (f j))) (fun q => by cases q) (by show ¬ (i < 0 ∨ (arrV _ _ _).slots.size ≤ _); rw [arrV_size]; exact hin) rfl rfl d fun H1 e z oq => ?_
  refine k H1 _ L (hR.set ha (Or.inl ⟨cA', h1', h2', ?_⟩) oq) (hK.set hA z oq) (za_locs hl hA) hL
  have ec : vp_cell cA' (n, .inl f) = vp_cell cA (n, .inl f) := Option.some.inj (h3'.symm.trans h3)
  have ec2 : cA' = cA := congrArg Cell.cls ec
  show H1[a]? = some (vp_cell _ _)
  rw [e, ec2, vp_cell_i, vp_cell_i, arrV_store]
  congr 2
  funext q
  by_cases hq : q = i.toNatClampNeg
  · subst hq
    rcases hx with rfl | rfl <;> simp [updV, upd] <;> rfl
  · simp [updV, upd, hq]
theorem za_last (X : za_X C) {a n : Nat} {f : Nat → Int64} {i : Int32} {x : Int64} (d : decode C.M.cc pc = .ok (.lastore, 1)) (ha : h a = some (.inl (.long, n, .inr (.inl f)))) (hin : vp_in i n) (k : za_w C (pc + 1) ls st (za_up h a (.inl (.long, n, .inr (.inl (vp_updL f i.toNatClampNeg x))))) cells slots) : za_w C pc ls (.long x :: .int i :: .ref a :: st) h cells slots := fun H locs L hR hK hl hL => by
  obtain ⟨cA, h1, h2, h3⟩ := za_arr X hR ha (fun q => by cases q)
  obtain ⟨hb, hc⟩ := hR a _ ha
  obtain ⟨cA', h1', h2', h3'⟩ := za_cyn hc (fun q => by cases q)
  have hA := hb
  refine W.last X.1 X.2.1 h3 (h1 n (fun j => .long (f j))) (fun q => by cases q) (by show ¬ (i < 0 ∨ (arrV _ _ _).slots.size ≤ _); rw [arrV_size]; exact hin) rfl rfl d fun H1 e z oq => ?_
  refine k H1 _ L (hR.set ha (Or.inl ⟨cA', h1', h2', ?_⟩) oq) (hK.set hA z oq) (za_locs hl hA) hL
  have ec : vp_cell cA' (n, .inr (.inl f)) = vp_cell cA (n, .inr (.inl f)) := Option.some.inj (h3'.symm.trans h3)
  have ec2 : cA' = cA := congrArg Cell.cls ec
  show H1[a]? = some (vp_cell _ _)
  rw [e, ec2, vp_cell_l, vp_cell_l, arrV_store]
  congr 2
  funext q
  by_cases hq : q = i.toNatClampNeg
  · subst hq; simp [updV, vp_updL]
  · simp [updV, vp_updL, hq]
theorem za_aastN (X : za_X C) {a n : Nat} {E : String} {f : Nat → Option Nat} {i : Int32} (d : decode C.M.cc pc = .ok (.aastore, 1)) (ha : h a = some (.inl (.object E, n, .inr (.inr (.inr (.inr f)))))) (hin : vp_in i n) (k : za_w C (pc + 1) ls st (za_up h a (.inl (.object E, n, .inr (.inr (.inr (.inr (va_up f i.toNatClampNeg none))))))) cells slots) : za_w C pc ls (.null :: .int i :: .ref a :: st) h cells slots := fun H locs L hR hK hl hL => by
  obtain ⟨cA, h1, h2, h3⟩ := za_arr X hR ha (fun q => by cases q)
  obtain ⟨hb, hc⟩ := hR a _ ha
  obtain ⟨cA', h1', h2', h3'⟩ := za_cyn hc (fun q => by cases q)
  have hA := hb
  refine va_WaastN (C := E) X.1 X.2.1 h3 (h1 n (fun j => va_rf (f j))) (fun h => by cases h) (by show ¬ (i < 0 ∨ (arrV _ _ _).slots.size ≤ _); rw [arrV_size]; exact hin) rfl rfl d fun H1 e z oq => ?_
  refine k H1 _ L (hR.set ha (Or.inl ⟨cA', h1', h2', ?_⟩) oq) (hK.set hA z oq) (za_locs hl hA) hL
  have ec : vp_cell cA' (n, .inr (.inr (.inr (.inr f)))) = vp_cell cA (n, .inr (.inr (.inr (.inr f)))) := Option.some.inj (h3'.symm.trans h3)
  have ec2 : cA' = cA := congrArg Cell.cls ec
  show H1[a]? = some (vp_cell _ _)
  rw [e, ec2, vp_cell_q, vp_cell_q, arrV_store]
  congr 2
  funext q
  by_cases hq : q = i.toNatClampNeg
  · subst hq; simp [updV, va_up, va_rf]
  · simp [updV, va_up, hq]
theorem za_ob (X : za_X C) {H : Heap} (hR : za_R C.G h H) {a ci : Nat} {fs : List Value} (ha : h a = some (.inr (ci, fs))) : ∃ r : vw_C, vwCl[ci]? = some r ∧ t_OB a (C.G.D.1 ci) r.2.2 (C.G.D.2 ci) H (vp_V fs) ∧ ∃ cell : Cell, H[a]? = some cell ∧ cell.vm.isStatics = false ∧ C.s.vm.findClass r.1 = some cell.cls := by
  obtain ⟨-, r, h1, h2⟩ := hR a _ ha
  refine ⟨r, h1, h2, ?_⟩
  obtain ⟨cell, g1, g2, g3, -⟩ := h2
  exact ⟨cell, g1, by rw [g3]; rfl, by rw [g2]; exact ((za_kK X).1 ci r h1).2.1⟩
theorem za_cst (X : za_X C) {x y : String} (hca : Cond.castable x y ∈ lw_tbl) : (Cond.castable x y).before C.args C.s = true := by
  obtain ⟨A0, hA0⟩ := X.2.2.2.2.2.2.1.2.1
  exact va_Nw.use rfl (va_Nw.warmC X.2.2.2.2.2.1.1 (va_Nw.of rfl (hA0 _ hca)))
/-- a value of class ci is stored in a row of Objects -/
theorem za_aast (X : za_X C) {a n v ci : Nat} {fs : List Value} {r : vw_C} {f : Nat → Option Nat} {i : Int32} (d : decode C.M.cc pc = .ok (.aastore, 1)) (ha : h a = some (.inl (.object "java/lang/Object", n, .inr (.inr (.inr (.inr f)))))) (hv : h v = some (.inr (ci, fs))) (hr : vwCl[ci]? = some r) (hca : Cond.castable r.1 "java/lang/Object" ∈ lw_tbl) (hin : vp_in i n)
    (k : za_w C (pc + 1) ls st (za_up h a (.inl (.object "java/lang/Object", n, .inr (.inr (.inr (.inr (va_up f i.toNatClampNeg (some v)))))))) cells slots) : za_w C pc ls (.ref v :: .int i :: .ref a :: st) h cells slots := fun H locs L hR hK hl hL => by
  obtain ⟨cA, h1, h2, h3⟩ := za_arr X hR ha (fun q => by cases q)
  obtain ⟨hb, hc⟩ := hR a _ ha
  obtain ⟨cA', h1', h2', h3'⟩ := za_cyn hc (fun q => by cases q)
  have hA := hb
  have h0 : ¬ i < 0 := fun q => hin (Or.inl q)
  obtain ⟨r', hr', hob, cellV, g1, g2, g3⟩ := za_ob X hR hv
  cases hr.symm.trans hr'
  obtain ⟨cellW, q1, q2, q3, -⟩ := hob
  cases g1.symm.trans q1
  have hcls := ((za_kK X).1 ci r hr).2
  obtain ⟨kA, comp, k1, k2, k3, -⟩ := h2
  obtain ⟨kE, hkE, -⟩ := Vm.findClass_spec k3
  obtain ⟨c0, t1, f1, f2, f3⟩ := Cond.castable_spec (za_cst X hca)
  cases hcls.1.symm.trans f1
  cases k3.symm.trans f2
  obtain ⟨kC, hkC, -⟩ := hcls.2
  refine W.aast X.1 X.2.1 h3 (fun q h => by cases h) (fun h => by cases h) k1 k2 rfl hkE ⟨h0, by show _ < (arrV _ _ _).slots.size; rw [arrV_size]; exact za_nlt hin⟩ g1 (fun q h => by rw [q3] at h; cases h) (by rw [q2]; exact hkC) (by rw [q2]; exact f3) rfl rfl d fun H1 e z oq => ?_
  refine k H1 _ L (hR.set ha (Or.inl ⟨cA', h1', h2', ?_⟩) oq) (hK.set hA z oq) (za_locs hl hA) hL
  have ec : vp_cell cA' (n, .inr (.inr (.inr (.inr f)))) = vp_cell cA (n, .inr (.inr (.inr (.inr f)))) := Option.some.inj (h3'.symm.trans h3)
  have ec2 : cA' = cA := congrArg Cell.cls ec
  show H1[a]? = some (vp_cell _ _)
  rw [e, ec2, vp_cell_q, vp_cell_q, arrV_store]
  congr 2
  funext q
  by_cases hq : q = i.toNatClampNeg
  · subst hq; simp [updV, va_up, va_rf]
  · simp [updV, va_up, hq]
/-- a field's link: class ci, its k-th field, of type ty, final or not -/
def za_fl (own : String) (idx ci k : Nat) (ty : FieldType) (fin : Nat) : Prop :=
  ∃ (Cn : String) (T : u_T) (N : Nat) (ref : String) (ty0 : Nat → FieldType), vwCl[ci]? = some (Cn, T, N) ∧ k < N ∧ Cond.fieldLink own idx ref (T k).2.1 (T k).2.2.1 ∈ lw_tbl ∧ (ref = (T k).1 ∨ Cond.sameField ref (T k).1 (T k).2.1 (T k).2.2.1 ∈ lw_tbl) ∧
    (∀ w ∈ u_ws Cn T N, w ∈ lw_tbl) ∧ (∀ k, k < N → parseFieldDescriptor (T k).2.2.1 = some (ty0 k)) ∧ (∀ a, a < N → ∀ b, b < N → a ≠ b → (T a).2.1 ≠ (T b).2.1) ∧ ty0 k = ty ∧ (fin = 0 → (T k).2.2.2 = false) ∧ (fin = 1 → (T k).2.2.2 = true ∧ (T k).1 = own)
theorem za_lays (X : za_X C) {Cn : String} {T : u_T} {N : Nat} (hin : ∀ w ∈ u_ws Cn T N, w ∈ lw_tbl) {k : Nat} (hk : k < N) : (u_lay Cn T k).before C.args C.s = true := by
  refine za_wd X (hin _ (u_in_lay hk)) ?_
  unfold u_lay
  split <;> rfl
theorem za_lays2 (X : za_X C) {Cn : String} {T : u_T} {N : Nat} (hin : ∀ w ∈ u_ws Cn T N, w ∈ lw_tbl) {k : Nat} (hk : k < N) : (Cond.lays Cn (T k).1 (T k).2.1 (T k).2.2.1).before C.args C.s = true ∨ (Cond.laysFinal Cn (T k).1 (T k).2.1 (T k).2.2.1).before C.args C.s = true := by
  have h := za_lays X hin hk
  unfold u_lay at h
  split at h
  · exact Or.inr h
  · exact Or.inl h
theorem za_same (X : za_X C) {ref o n d : String} (h : ref = o ∨ Cond.sameField ref o n d ∈ lw_tbl) : ∀ x, C.s.fieldFound? o n d = some x → C.s.fieldFound? ref n d = some x := by
  rcases h with rfl | h
  · exact fun _ h => h
  · exact u_same (za_wd X h rfl)
theorem za_get (X : za_X C) {idx ci kk : Nat} {ty : FieldType} {fin : Nat} {a : Nat} {fs : List Value} {v : Value} (d : decode C.M.cc pc = .ok (.getfield idx, 3)) (hf : za_fl C.M.y.cls idx ci kk ty fin) (ha : h a = some (.inr (ci, fs))) (hv : fs[kk]? = some v) (k : za_w C (pc + 3) ls (v :: st) h cells slots) : za_w C pc ls (.ref a :: st) h cells slots := fun H locs L hR hK hl hL => by
  obtain ⟨Cn, T, N, ref, ty0, c1, c2, c3, c4, c5, c6, c7, c8, c9, c10⟩ := hf
  obtain ⟨r, h1, ⟨cell, q1, q2, q3, q4⟩, -⟩ := za_ob X hR ha
  cases c1.symm.trans h1
  obtain ⟨hS, hfc, kC, hkC, hkind⟩ := (za_kK X).1 ci _ c1
  obtain ⟨cf, kf, fi, f, hi, hsl⟩ := hS kk c2
  refine W.getf X.1 X.2.1 X.2.2.2.1 (za_wd X c3 rfl) (za_same X c4 _ hi) (u_facts hfc hkC (za_lays2 X c5 c2) hi).1 q1 (by rw [q3]; exact fun h => by cases h) (v := v) ?_ rfl rfl d (k H locs L hR hK hl hL)
  rw [hsl, q4 kk c2]
  simp [vp_V, hv]
def za_fit (ty : FieldType) (v : Value) : Prop := narrow ty v = v ∧ fits ty v = true
theorem za_apart (X : za_X C) {Cn : String} {T : u_T} {N ci : Nat} {ty0 : Nat → FieldType} (c1 : vwCl[ci]? = some (Cn, T, N)) (hin : ∀ w ∈ u_ws Cn T N, w ∈ lw_tbl) (hty : ∀ k, k < N → parseFieldDescriptor (T k).2.2.1 = some (ty0 k)) (hnm : ∀ a, a < N → ∀ b, b < N → a ≠ b → (T a).2.1 ≠ (T b).2.1) : ∀ x y, x < N → y < N → x ≠ y → (C.G.D.2 ci) x ≠ (C.G.D.2 ci) y := by
  intro x y hx hy hne
  obtain ⟨hS, -⟩ := (za_kK X).1 ci _ c1
  obtain ⟨_, _, _, fa, hia, ea⟩ := hS x hx
  obtain ⟨_, _, _, fb, hib, eb⟩ := hS y hy
  rw [← ea, ← eb]
  refine u_apart (za_lays2 X hin hx) (za_lays2 X hin hy) hia hib ?_
  rw [(State.fieldFound?_type hia (hty x hx)).1, (State.fieldFound?_type hib (hty y hy)).1]
  exact hnm x hx y hy hne
theorem za_put (X : za_X C) {idx ci kk : Nat} {ty : FieldType} {fin : Nat} {a : Nat} {fs : List Value} {v : Value} (d : decode C.M.cc pc = .ok (.putfield idx, 3)) (hf : za_fl C.M.y.cls idx ci kk ty fin) (hfin : fin = 0 ∨ (fin = 1 ∧ C.M.y.name = "<init>")) (ha : h a = some (.inr (ci, fs))) (hlt : kk < fs.length) (hv : za_fit ty v) (k : za_w C (pc + 3) ls st (za_up h a (.inr (ci, fs.set kk v))) cells slots) : za_w C pc ls (v :: .ref a :: st) h cells slots := fun H locs L hR hK hl hL => by
  obtain ⟨Cn, T, N, ref, ty0, c1, c2, c3, c4, c5, c6, c7, c8, c9, c10⟩ := hf
  have hap := za_apart X c1 c5 c6 c7
  have hA := (hR a _ ha).1
  obtain ⟨r, h1, ⟨cell, q1, q2, q3, q4⟩, -⟩ := za_ob X hR ha
  cases c1.symm.trans h1
  obtain ⟨hS, hfc, kC, hkC, hkind⟩ := (za_kK X).1 ci _ c1
  obtain ⟨cf, kf, fi, f, hi, hsl⟩ := hS kk c2
  have hst := (u_facts hfc hkC (za_lays2 X c5 c2) hi).1
  have hd : parseFieldDescriptor (T kk).2.2.1 = some ty := by rw [c6 kk c2, c8]
  have hlay := za_lays X c5 c2
  have fin' : ∀ (H1 : Heap), H1[a]? = some (cell.setSlot (C.G.D.2 ci kk) v) → H1.size = H.size → (∀ q : Nat, q ≠ a → H1[q]? = H[q]?) → za_R C.G (za_up h a (.inr (ci, fs.set kk v))) H1 := fun H1 e1 e2 e3 =>
    hR.set ha ⟨_, c1, t_OB.to (V := updV (vp_V fs) kk v) ⟨_, e1, q2, q3, t_set q4 hap c2 v⟩ (fun j _ => vp_updV_set hlt v j)⟩ e3
  rcases hfin with hb | ⟨hb, hin2⟩
  · unfold u_lay at hlay
    rw [if_neg (by rw [c9 hb]; decide)] at hlay
    have h6 := u_store hfc hkC hkind hlay hi hd hv.1 hv.2
    refine W.putK X.1 X.2.1 (f := f) ⟨X.2.2.2.1, za_wd X c3 rfl, ⟨_, _, _, za_same X c4 _ hi⟩, hst⟩ (by rw [q2]; exact h6) q1 q3 (by rw [hsl]; exact k2_hasslot (q4 kk c2)) rfl rfl d fun H' e1 e2 e3 => ?_
    rw [hsl] at e1 ⊢
    exact k H' _ L (fin' H' e1 e2 e3) (hK.set hA e2 e3) (za_locs hl hA) hL
  · unfold u_lay at hlay
    rw [if_pos (c10 hb).1] at hlay
    have hcf : C.m.cls = cf := by
      obtain ⟨_, _, c', _, _, _, -, -, hf', -, -, -, hown2, -⟩ := Cond.laysFinal_spec hlay
      have e1 : c' = cf := by have := hi.symm.trans hf'; simp at this; exact this.1.symm
      rw [(c10 hb).2] at hown2
      rw [← e1]; exact Option.some.inj (X.2.2.2.1.symm.trans hown2)
    have h6 := u_fits hfc hkC hkind (Or.inr hlay) hi hd hv.1 hv.2
    refine W.putFinK X.1 X.2.1 X.2.2.2.1 (za_wd X c3 rfl) (za_same X c4 _ hi) hst hcf (by rw [X.2.2.2.2.2.2.2.1]; exact hin2) (by rw [q2]; exact h6) q1 q3 (by rw [hsl]; exact k2_hasslot (q4 kk c2)) rfl rfl d fun H' e1 e2 e3 => ?_
    rw [hsl] at e1 ⊢
    exact k H' _ L (fin' H' e1 e2 e3) (hK.set hA e2 e3) (za_locs hl hA) hL
/-- a class's link for 'new': class ci, its fields' first values -/
def za_nl (own : String) (idx ci : Nat) (fs : List Value) : Prop :=
  ∃ (Cn : String) (T : u_T) (N : Nat) (ty0 : Nat → FieldType), vwCl[ci]? = some (Cn, T, N) ∧ Cond.classLink own idx Cn ∈ lw_tbl ∧ Cond.instantiable Cn N ∈ lw_tbl ∧ Cond.initialized Cn ∈ lw_tbl ∧
    (∀ w ∈ u_ws Cn T N, w ∈ lw_tbl) ∧ (∀ k, k < N → parseFieldDescriptor (T k).2.2.1 = some (ty0 k)) ∧ fs.length = N ∧ (∀ j, j < N → defaultValue (ty0 j) = vp_V fs j)
theorem za_tne (X : za_X C) {H : Heap} (hK : za_K C.G H) : H.size ≠ C.G.t := fun z => by
  obtain ⟨cell, h1, h2, h3, h4, h5, h6, h7⟩ := X.2.2.2.2.2.2.1.2.2.2.2.1
  have hlt : C.G.t < za_b C.G := Nat.lt_of_not_le fun y => h7 (Or.inl y)
  have := hK.1
  omega
theorem za_new (X : za_X C) {idx ci : Nat} {fs : List Value} (d : decode C.M.cc pc = .ok (.new idx, 3)) (hn : za_nl C.M.y.cls idx ci fs) (hc : cells + 1 ≤ C.mc) (hs : slots + fs.length ≤ C.ms) (k : ∀ q, za_nn C.G h q → za_w C (pc + 3) ls (.ref q :: st) (za_up h q (.inr (ci, fs))) (cells + 1) (slots + fs.length)) : za_w C pc ls st h cells slots := fun H locs L hR hK hl hL => by
  obtain ⟨Cn, T, N, ty0, c1, c2, c3, c4, c5, c6, c7, c8⟩ := hn
  subst c7
  obtain ⟨hS, hfc, kC0, hkC0, hkind⟩ := (za_kK X).1 ci _ c1
  refine W.newcK X.1 X.2.1 X.2.2.2.1 (za_wd X c2 rfl) (za_wd X c3 rfl) (za_wd X c4 rfl) rfl d hc hs hfc rfl fun H1 kC hkC e1 z1 o1 => ?_
  refine k H.size ⟨hR.new (Nat.le_refl _), za_tne X hK⟩ H1 locs L (hR.push hK ⟨_, c1, ?_⟩ o1) (hK.push (by omega) o1) hl hL
  have hts : ∀ w ∈ u_ws Cn T fs.length, w.before C.args C.s = true := fun w hw => by
    obtain ⟨j, hj, rfl⟩ := List.mem_map.mp hw
    exact za_lays X c5 (List.mem_range.mp hj)
  exact (u_born ty0 hts (fun _ h => h) ((za_kK X).1 ci _ c1) hkC e1 c6).to c8
/-- which rows are made: of ints, booleans, longs -/
def za_a0 (t : ArrayType) (n : Nat) : za_E := match t with
  | .int => .inl (.int, n, .inl (fun _ => 0))
  | .boolean => .inl (.boolean, n, .inl (fun _ => 0))
  | _ => .inl (.long, n, .inr (.inl (fun _ => 0)))
theorem za_newa (X : za_X C) {t : ArrayType} {n : Int32} (d : decode C.M.cc pc = .ok (.newarray t, 2)) (ht : t = .int) (hw : Cond.arrayClass (newarray.typeOf t) ∈ lw_tbl) (hn : ¬ n < 0) (hb : n.toNatClampNeg ≤ 1000000) (hc : cells + 1 ≤ C.mc) (hs : slots + n.toNatClampNeg ≤ C.ms) (k : ∀ q, za_nn C.G h q → za_w C (pc + 2) ls (.ref q :: st) (za_up h q (za_a0 t n.toNatClampNeg)) (cells + 1) (slots + n.toNatClampNeg)) : za_w C pc ls (.int n :: st) h cells slots := fun H locs L hR hK hl hL => by
  have hby : n.toNatClampNeg * componentBytes (newarray.typeOf t) ≤ 536870912 := by
    have : componentBytes (newarray.typeOf t) ≤ 8 := by rcases ht with rfl; decide
    calc n.toNatClampNeg * componentBytes (newarray.typeOf t) ≤ 1000000 * 8 := Nat.mul_le_mul hb this
      _ ≤ 536870912 := by decide
  refine va_newaK X.1 X.2.1 (za_wd X hw rfl) rfl d rfl hn rfl hby hc hs rfl fun H1 cA e1 z1 o1 hAr hNm => ?_
  refine k H.size ⟨hR.new (Nat.le_refl _), za_tne X hK⟩ H1 locs L (hR.push hK ?_ o1) (hK.push (by omega) o1) hl hL
  have hal := (za_al X).symm
  have hA2 := arrOfT_moved hal hAr
  have hN2 : va_RA C.s cA (newarray.typeOf t) := by rcases ht with rfl; exact hNm
  have hN3 := hN2.moved hal
  subst ht
  exact Or.inl ⟨cA, hA2, hN3, e1⟩
theorem za_newq (X : za_X C) {idx : Nat} {n : Int32} (d : decode C.M.cc pc = .ok (.anewarray idx, 3)) (hw : Cond.classLink C.M.y.cls idx "java/lang/Object" ∈ lw_tbl) (hw2 : Cond.arrayOver (.object "java/lang/Object") ∈ lw_tbl) (hn : ¬ n < 0) (hb : n.toNatClampNeg ≤ 1000000) (hc : cells + 1 ≤ C.mc) (hs : slots + n.toNatClampNeg ≤ C.ms) (k : ∀ q, za_nn C.G h q → za_w C (pc + 3) ls (.ref q :: st) (za_up h q (.inl (.object "java/lang/Object", n.toNatClampNeg, .inr (.inr (.inr (.inr (fun _ => none))))))) (cells + 1) (slots + n.toNatClampNeg)) : za_w C pc ls (.int n :: st) h cells slots := fun H locs L hR hK hl hL => by
  have hover : va_AO "java/lang/Object" C.s := by
    obtain ⟨A0, hA0⟩ := X.2.2.2.2.2.2.1.2.1
    exact va_AO.moved (za_al X) (va_AO.of (hA0 _ hw2))
  refine W.anew X.1 X.2.1 X.2.2.2.1 (za_wd X hw rfl) (va_AO.use hover) rfl d rfl hn (by omega) hc hs fun cA kA comp f1 f2 f3 f4 => ?_
  generalize hH1 : H.push ({ cls := cA, slots := Array.replicate n.toNatClampNeg .null, vm := .none } : Cell) = H1
  have z1 : H1.size = H.size + 1 := by rw [← hH1, Array.size_push]
  have e1 : H1[H.size]? = some (arrV cA n.toNatClampNeg (fun _ => .null)) := by rw [← hH1, Array.getElem?_push_size, ← arrV_new]
  have o1 : ∀ q : Nat, q < H.size → H1[q]? = H[q]? := fun q hq => by rw [← hH1, Array.getElem?_push, if_neg (Nat.ne_of_lt hq)]
  have hAr : ArrOfT C.s cA (.object "java/lang/Object") := fun N z => ⟨(fun k h => by cases h), kA, f2, comp, f3⟩
  have hRA : va_RA C.s cA (.object "java/lang/Object") := ⟨kA, comp, f2, f3, f4, f1⟩
  have hal := (za_al X).symm
  exact k H.size ⟨hR.new (Nat.le_refl _), za_tne X hK⟩ H1 locs L (hR.push hK (Or.inl ⟨cA, arrOfT_moved hal hAr, hRA.moved hal, e1⟩) o1) (hK.push (by omega) o1) hl hL
theorem za_alen (X : za_X C) {a : Nat} {x : FieldType × vp_A} (d : decode C.M.cc pc = .ok (.arraylength, 1)) (ha : h a = some (.inl x)) (k : za_w C (pc + 1) ls (.int (nI x.2.1) :: st) h cells slots) : za_w C pc ls (.ref a :: st) h cells slots := fun H locs L hR hK hl hL => by
  have k1 := k H locs L hR hK hl hL
  rcases (hR a _ ha).2 with ⟨cA, g1, g2, h3⟩ | ⟨n, f, e, cell, g1, g2, g3, g4⟩
  rotate_left
  · subst e
    exact W.alen (n := Int32.ofNat n) X.1 X.2.1 g1 (State.isArrayOf_alike (za_al X) g2) (by rw [g4, arrV_size] <;> rfl) rfl rfl d k1
  have h1 := arrOfT_moved (za_al X) g1
  obtain ⟨ty, n, f | f | f | f | f⟩ := x
  · exact W.alen (n := Int32.ofNat n) X.1 X.2.1 h3 (h1 n (fun j => .int (f j))) (by rw [vp_cell_i, arrV_size] <;> rfl) rfl rfl d k1
  · exact W.alen (n := Int32.ofNat n) X.1 X.2.1 h3 (h1 n (fun j => .long (f j))) (by rw [vp_cell_l, arrV_size] <;> rfl) rfl rfl d k1
  · exact W.alen (n := Int32.ofNat n) X.1 X.2.1 h3 (h1 n (fun j => .float (f j))) (by rw [vp_cell_f, arrV_size] <;> rfl) rfl rfl d k1
  · exact W.alen (n := Int32.ofNat n) X.1 X.2.1 h3 (h1 n (fun j => .double (f j))) (by rw [vp_cell_d, arrV_size] <;> rfl) rfl rfl d k1
  · exact W.alen (n := Int32.ofNat n) X.1 X.2.1 h3 (h1 n (fun j => va_rf (f j))) (by rw [vp_cell_q, arrV_size] <;> rfl) rfl rfl d k1
/-- the length of the list's empty row -/
theorem za_alenT (X : za_X C) (d : decode C.M.cc pc = .ok (.arraylength, 1)) (k : za_w C (pc + 1) ls (.int 0 :: st) h cells slots) : za_w C pc ls (.ref C.G.t :: st) h cells slots := fun H locs L hR hK hl hL => by
  obtain ⟨cell, h1, h2, h3, h4, h5, h6, h7⟩ := X.2.2.2.2.2.2.1.2.2.2.2.1
  have h8 : H[C.G.t]? = some cell := by rw [hK.2 _ h7]; exact h1
  exact W.alen (n := 0) X.1 X.2.1 h8 (State.isArrayOf_alike (za_al X) h2) h5 rfl rfl d (k H locs L hR hK hl hL)
/-- the static that holds the list's empty row -/
theorem za_getT (X : za_X C) {idx : Nat} (d : decode C.M.cc pc = .ok (.getstatic idx, 3)) (hw : Cond.fieldLink C.M.y.cls idx "java/util/ArrayList" "DEFAULTCAPACITY_EMPTY_ELEMENTDATA" "[Ljava/lang/Object;" ∈ lw_tbl) (k : za_w C (pc + 3) ls (.ref C.G.t :: st) h cells slots) : za_w C pc ls st h cells slots := fun H locs L hR hK hl hL => by
  have hZ := va_Z.moved (za_al X) X.2.2.2.2.2.2.1.2.2.2.1
  obtain ⟨cf, kf, fi, f, a, cell, h1, h2, h3, h4, h5, h6, h7, h8⟩ := hZ
  exact W.gets X.1 X.2.1 X.2.2.2.1 (za_wd X hw rfl) h1 h2 h3 h4 (by rw [hK.2 a h8]; exact h5) (fun e => by rw [e] at h6; cases h6) h7 rfl d (k H locs L hR hK hl hL)
/-- a number out of the pool -/
theorem za_ldc (X : za_X C) {idx : Nat} {v : Int32} (d : decode C.M.cc pc = .ok (.ldc idx, 2)) (hw : Cond.constant C.M.y.cls idx v ∈ lw_tbl) (k : za_w C (pc + 2) ls (.int v :: st) h cells slots) : za_w C pc ls st h cells slots := fun H locs L hR hK hl hL => lv_ldc X.1 X.2.1 X.2.2.2.1 (za_wd X hw rfl) d (k H locs L hR hK hl hL)
/-- the class object of Object rows -/
theorem za_ldcM (X : za_X C) {idx : Nat} (d : decode C.M.cc pc = .ok (.ldc idx, 2)) (hw : Cond.classLink C.M.y.cls idx "[Ljava/lang/Object;" ∈ lw_tbl) (k : za_w C (pc + 2) ls (.ref C.G.mi :: st) h cells slots) : za_w C pc ls st h cells slots := fun H locs L hR hK hl hL => va_ldcM X.1 X.2.1 X.2.2.2.1 (za_wd X hw rfl) (va_Mi.moved (za_al X) X.2.2.2.2.2.2.1.2.2.2.2.2.2.2.2.2.1) d (k H locs L hR hK hl hL)
/-- a cast of an object to its own class -/
theorem za_cast (X : za_X C) {idx ci a : Nat} {fs : List Value} {r : vw_C} (d : decode C.M.cc pc = .ok (.checkcast idx, 3)) (ha : h a = some (.inr (ci, fs))) (hr : vwCl[ci]? = some r) (hw : Cond.classLink C.M.y.cls idx r.1 ∈ lw_tbl) (k : za_w C (pc + 3) ls (.ref a :: st) h cells slots) : za_w C pc ls (.ref a :: st) h cells slots := fun H locs L hR hK hl hL => by
  obtain ⟨r', h1, -, h2⟩ := za_ob X hR ha
  cases hr.symm.trans h1
  exact va_castS X.1 X.2.1 X.2.2.2.1 (za_wd X hw rfl) ((za_kK X).1 ci r hr).2 h2 d (k H locs L hR hK hl hL)
theorem za_objInit (X : za_X C) {idx a : Nat} (d : decode C.M.cc pc = .ok (.invokespecial idx, 3)) (h1 : Cond.methodLink C.M.y.cls idx objectInit ∈ lw_tbl) (h2 : Cond.instanceMethod objectInit ∈ lw_tbl) (h3 : Cond.code objectInit ⟨#[0xb1]⟩ 1 none ∈ lw_tbl) (hfr : 1 ≤ C.M.fr) (hst : st.length ≤ 4) (k : za_w C (pc + 3) ls st h cells slots) : za_w C pc ls (.ref a :: st) h cells slots := fun H locs L hR hK hl hL => by
  have hcat : (st.map fun v => v.category).sum ≤ 2 * st.length := by
    clear hst k
    induction st with
    | nil => simp
    | cons v vs ih =>
      have : v.category ≤ 2 := by cases v <;> simp [Value.category]
      simp only [List.map_cons, List.sum_cons, List.length_cons]
      omega
  refine W.objInit X.1 X.2.1 X.2.2.2.1 (za_wd X h1 rfl) (za_wd X h2 rfl) (za_wd X h3 rfl) rfl (by rw [X.2.2.1]; exact hL.size) rfl d hfr ?_ (k H locs L hR hK hl hL)
  show 2 * 0 + _ + 12 ≤ 39 * C.M.fr
  omega
end ZC
end
section
/-! ===== BEGIN a constructor that throws (launches without stack traces) ===== -/
section VXIA
variable {p : Program} {l : Launch} {e : Env} {R : Room} {s : State} {m : MethodId} {args : Array Value} {below : List Frame} {meth : Method} {c : Code} {T : State} {locs : List Loc} {cells slots : Nat}
theorem vx_callI (X : Stand p l e R s m args below meth c T locs cells slots) (hexec : p.tables.exec = Jvm.exec) {own : String} {index : Nat} {y : MethodName} {bytes : ByteArray} {maxL : Nat}
    (hown : s.vm.findClass own = some m.cls) (hy1 : y.name = "<init>") (hlink : (Cond.methodLink own index y).before args s = true) (hinst : (Cond.instanceMethod y).before args s = true)
    (hcode : (Cond.code y bytes maxL none).before args s = true) (hy : y.cls ≠ "java/lang/invoke/MethodHandle" ∧ y.cls ≠ "java/lang/invoke/VarHandle")
    {W9 : Nat} {Pre : Pt → Array Value → Prop} {Post : Pt → Array Value → Option Value → Pt → Prop} {PostX : Pt → Array Value → Addr → Pt → Prop} (hK : vx_Back l R p e below s args y 3 W9 Pre Post PostX)
    {g : JFrame} (hg : g.method = m) (hsize : g.locals.size = c.maxLocals) {a : Addr} {argsL rest : List Value} (hlen : ∀ sig, parseMethodDescriptor y.desc = some sig → argsL.length = sig.parameters.length)
    (hstack : g.stack = argsL.reverse ++ .ref a :: rest) (hW : 2 * g.monitorRoom + (rest.map fun v => v.category).sum ≤ W9) (hdg : decode c.code g.pc = .ok (.invokespecial index, 3))
    (hpre : ∀ vm₁, s.WarmedH vm₁ → Pre ⟨T.setVm vm₁, locs, cells, slots⟩ (Value.ref a :: argsL).toArray) :
    (∃ (v : Option Value) (vm₁ : Vm) (B : Pt), s.WarmedH vm₁ ∧ Stand p l e R s m args below meth c B.U B.locs B.cells B.slots ∧ Post ⟨T.setVm vm₁, locs, cells, slots⟩ (Value.ref a :: argsL).toArray v B ∧
      ∀ target, Steps p.tables e below (B.U.setTop { g with pc := g.pc + 3, stack := v.toList ++ rest }) target → Steps p.tables e below (T.setTop g) target) ∨
    (∃ (q : Addr) (vm₁ : Vm) (B : Pt), s.WarmedH vm₁ ∧ Stand p l e R s m args below meth c B.U B.locs B.cells B.slots ∧ PostX ⟨T.setVm vm₁, locs, cells, slots⟩ (Value.ref a :: argsL).toArray q B ∧
      Steps p.tables e below (T.setTop g) ((B.U.setTop { g with stack := rest }).pushFrame (.throwing q))) := by
  subst hg
  have hpl : e.platform.magicAccessors = ({} : Platform).magicAccessors := by rw [X.admits.platform]
  obtain ⟨mk, methM, cM, kP, vm₁, hnamed, hmethM, hcodeM, -, hlocalsM, -, hkP, -, hW₁, hstep₁⟩ := Steps.initColdArgs (e := e) X.here hexec X.warmed hpl hown hy1 hy hlink hinst hcode (f := g) rfl hlen hstack hdg
  have X₁ := X.noted hW₁
  rcases hK g.method meth c ⟨T.setVm vm₁, locs, cells, slots⟩ { g with stack := rest } (.invokespecial index) mk (Value.ref a :: argsL).toArray X₁ rfl hsize hdg hW (X₁.named hnamed) (hpre vm₁ X₁.warmed) with ⟨v, B, X', hpost, hsteps⟩ | ⟨q, B, X', hpost, hsteps⟩
  · exact Or.inl ⟨v, vm₁, B, X₁.warmed, X', hpost, fun target h => hstep₁ _ fun acts => by rw [doInvoke_state]; exact hsteps.trans h⟩
  · exact Or.inr ⟨q, vm₁, B, X₁.warmed, X', hpost, hstep₁ _ fun acts => by rw [doInvoke_state]; exact hsteps⟩
end VXIA
section VXIB
variable {p : Program} {l : Launch} {e : Env} {R : Room} {s : State} {m : MethodId} {args : Array Value} {below : List Frame} {meth : Method} {c : Code} {H : Heap} {locs : List Loc} {cells slots : Nat}
variable {y : MethodName} {bytes cc : ByteArray} {maxL nL mc ms n index : Nat} {ret : Option FieldType} {ws : List Cond} {rm : Room} {Pc : Array Value → State → Prop} {Qc : Array Value → State → Outcome → State → Prop} {XC : String → State → State → Prop} {free : Addr → Prop} {Ts : List Cond} {own C : String} {b : Addr} {As rest : List Value} {g : JFrame}
theorem vx_runI (S : CallFix p m c cc nL s args Ts own) (hM : vx_Met l y ws rm Pc Qc XC mc ms free) (cw : CallB R s args own index y bytes maxL none ws rm mc ms n ∧ y.name = "<init>" ∧ (Cond.instanceMethod y).before args s = true) (hp : PreS s H Pc (.ref b :: As))
    (hg : g.method = m) (hn : As.length = n) (hsize : g.locals.size = nL) (hstack : g.stack = As.reverse ++ .ref b :: rest) (hW : 2 * g.monitorRoom + (rest.map fun v => v.category).sum ≤ 8) (hdg : decode cc g.pc = .ok (.invokespecial index, 3)) (hf : cells + mc ≤ R.cells ∧ slots + ms ≤ R.slots) :
    vx_Run p l e R s m args below meth c H locs cells slots mc ms g rest (Qc (Value.ref b :: As).toArray) XC free := by
  have hK : vx_Back l R p e below s args y 3 8 (PreOf R mc ms Pc) (PostOf Qc mc ms free) (vx_Post XC mc ms free) := vx_callBack cw.1 hM hp.1
  obtain ⟨⟨-, -, -, -, -, -, hcode, -, hy, hlen, hl⟩, hy1, hin⟩ := cw
  obtain ⟨hx, hb, hml, ho, -⟩ := S
  have hPc := hp.2
  intro T hT X
  rcases vx_callI X hx (bytes := bytes) (maxL := maxL) ho hy1 hl hin hcode hy hK hg (hsize.trans hml.symm) (a := b) (argsL := As) (rest := rest) (fun sig h => hn.trans (hlen sig h)) hstack hW (by rw [hb]; exact hdg)
    (fun vm₁ hW₁ => ⟨hf.1, hf.2, hPc (T.setVm vm₁) hT hW₁⟩) with ⟨v, vm₁, ⟨U', l2, c2, s2⟩, hW₁, X', ⟨g', mk, t, L, e1, e2, hq, h1, hL, h2, h3⟩, st⟩ | ⟨q, vm₁, ⟨U', l2, c2, s2⟩, hW₁, X', ⟨g', mk, t, L, E, ce, e1, e2, hq, hce, hcv, hcl, h1, hL, h2, h3⟩, st⟩
  · dsimp only [Pt.U, Pt.locs, Pt.cells, Pt.slots] at X' e1 e2 h1 h2 h3 st
    subst h1; subst h2; subst h3
    exact Or.inl ⟨v, (T.setVm vm₁).calling g' mk (Value.ref b :: As).toArray, t, U', L, hT, X', hL, e1, e2, hq, st⟩
  · dsimp only [Pt.U, Pt.locs, Pt.cells, Pt.slots] at X' e1 e2 h1 h2 h3 st hcl
    subst h1; subst h2; subst h3
    exact Or.inr ⟨q, (T.setVm vm₁).calling g' mk (Value.ref b :: As).toArray, t, U', L, E, ce, hT, X', hL, e1, e2, hq, hce, hcv, vx_cls hW₁ hcl, st⟩
end VXIB
/-! ===== END ===== -/
/-! ===== BEGIN a private method of a nest mate that may throw (follows va_callVN, va_callSN, va_runVN, va_runSN) ===== -/
section
variable {p : Program} {l : Launch} {e : Env} {R : Room} {s : State} {m : MethodId} {args : Array Value} {below : List Frame} {meth : Method} {c : Code} {H : Heap} {locs : List Loc} {cells slots : Nat}
variable {T : State}
theorem vx_callVN (X : Stand p l e R s m args below meth c T locs cells slots) (hexec : p.tables.exec = Jvm.exec) {own C : String} {index : Nat} {host : String} {y : MethodName} {bytes : ByteArray} {maxL : Nat} {ret : Option FieldType}
    (hown : s.vm.findClass own = some m.cls) (hlink : (Cond.methodLinkNest own index y host).before args s = true) (hinst : (Cond.instanceMethod y).before args s = true) (hsel : (Cond.selects C y y).before args s = true)
    (hcode : (Cond.code y bytes maxL ret).before args s = true) (hy : y.cls ≠ "java/lang/invoke/MethodHandle" ∧ y.cls ≠ "java/lang/invoke/VarHandle")
    {W : Nat} {Pre : Pt → Array Value → Prop} {Post : Pt → Array Value → Option Value → Pt → Prop} {PostX : Pt → Array Value → Addr → Pt → Prop} (hK : vx_Back l R p e below s args y 3 W Pre Post PostX)
    {b : Addr} {cellB : Cell} (hcell : T.heap[b]? = some cellB) (hobj : cellB.vm.isStatics = false) (hcls : s.vm.findClass C = some cellB.cls)
    {g : JFrame} (hg : g.method = m) (hsize : g.locals.size = c.maxLocals) {argsL rest : List Value} (hlen : ∀ sig, parseMethodDescriptor y.desc = some sig → argsL.length = sig.parameters.length)
    (hstack : g.stack = argsL.reverse ++ .ref b :: rest) (hW : 2 * g.monitorRoom + (rest.map fun v => v.category).sum ≤ W) (hdg : decode c.code g.pc = .ok (.invokevirtual index, 3))
    (hpre : ∀ vm₁, s.WarmedH vm₁ → Pre ⟨T.setVm vm₁, locs, cells, slots⟩ (Value.ref b :: argsL).toArray) :
    (∃ (v : Option Value) (vm₁ : Vm) (B : Pt), s.WarmedH vm₁ ∧ Stand p l e R s m args below meth c B.U B.locs B.cells B.slots ∧ Post ⟨T.setVm vm₁, locs, cells, slots⟩ (Value.ref b :: argsL).toArray v B ∧
      ∀ target, Steps p.tables e below (B.U.setTop { g with pc := g.pc + 3, stack := v.toList ++ rest }) target → Steps p.tables e below (T.setTop g) target) ∨
    (∃ (q : Addr) (vm₁ : Vm) (B : Pt), s.WarmedH vm₁ ∧ Stand p l e R s m args below meth c B.U B.locs B.cells B.slots ∧ PostX ⟨T.setVm vm₁, locs, cells, slots⟩ (Value.ref b :: argsL).toArray q B ∧
      Steps p.tables e below (T.setTop g) ((B.U.setTop { g with stack := rest }).pushFrame (.throwing q))) := by
  obtain ⟨mk, methM, hnamed, hmethM, hstM, habM⟩ := Cond.instanceMethod_spec hinst
  obtain ⟨methM', cM, hmethM', -, -, -, -, -, -, hsigM⟩ := Cond.code_spec hnamed hcode
  cases hmethM.symm.trans hmethM'
  obtain ⟨c2, r2, m2, q1, q2, q3, q4, kP, hkP, hkPi⟩ := Cond.selects_spec hsel
  cases hcls.symm.trans q1
  cases (State.methodFound?_of_named hnamed hy).symm.trans q2
  cases hnamed.symm.trans q3
  have hselP : selectMethod e.platform s.vm cellB.cls mk = .method mk := by rw [Launch.admits_selectMethod X.admits]; exact q4
  obtain ⟨vm₁, X₁, hstep₁⟩ := X.invokevirtualNest hexec hown hlink hnamed hmethM hstM hkP hkPi hy (a := b) (cell := cellB) hcell
    (fun z h => by rw [h] at hobj; cases hobj) hselP hmethM habM hkP hkPi (g := g) hg (argsL := argsL) (rest := rest) (hlen _ hsigM) hstack hdg
  rcases hK m meth c ⟨T.setVm vm₁, locs, cells, slots⟩ { g with stack := rest } (.invokevirtual index) mk (Value.ref b :: argsL).toArray X₁ hg hsize hdg hW (X₁.named hnamed) (hpre vm₁ X₁.warmed) with ⟨v, B, X', hpost, hsteps⟩ | ⟨q, B, X', hpost, hsteps⟩
  · exact Or.inl ⟨v, vm₁, B, X₁.warmed, X', hpost, fun target h => hstep₁ _ fun acts => by rw [doInvoke_state]; exact hsteps.trans h⟩
  · exact Or.inr ⟨q, vm₁, B, X₁.warmed, X', hpost, hstep₁ _ fun acts => by rw [doInvoke_state]; exact hsteps⟩
theorem vx_callSN (X : Stand p l e R s m args below meth c T locs cells slots) (hexec : p.tables.exec = Jvm.exec) {own : String} {index : Nat} {host : String} {y : MethodName} {bytes : ByteArray} {maxL : Nat} {ret : Option FieldType}
    (hown : s.vm.findClass own = some m.cls) (hlink : (Cond.methodLinkNest own index y host).before args s = true) (hstat : (Cond.static y).before args s = true) (hinit : (Cond.initialized y.cls).before args s = true)
    (hcode : (Cond.code y bytes maxL ret).before args s = true) (hy : y.cls ≠ "java/lang/invoke/MethodHandle" ∧ y.cls ≠ "java/lang/invoke/VarHandle")
    {W : Nat} {Pre : Pt → Array Value → Prop} {Post : Pt → Array Value → Option Value → Pt → Prop} {PostX : Pt → Array Value → Addr → Pt → Prop} (hK : vx_Back l R p e below s args y 3 W Pre Post PostX)
    {g : JFrame} (hg : g.method = m) (hsize : g.locals.size = c.maxLocals) {argsL rest : List Value} (hlen : ∀ sig, parseMethodDescriptor y.desc = some sig → argsL.length = sig.parameters.length)
    (hstack : g.stack = argsL.reverse ++ rest) (hW : 2 * g.monitorRoom + (rest.map fun v => v.category).sum ≤ W) (hdg : decode c.code g.pc = .ok (.invokestatic index, 3))
    (hpre : ∀ vm₁, s.WarmedH vm₁ → Pre ⟨T.setVm vm₁, locs, cells, slots⟩ argsL.toArray) :
    (∃ (v : Option Value) (vm₁ : Vm) (B : Pt), s.WarmedH vm₁ ∧ Stand p l e R s m args below meth c B.U B.locs B.cells B.slots ∧ Post ⟨T.setVm vm₁, locs, cells, slots⟩ argsL.toArray v B ∧
      ∀ target, Steps p.tables e below (B.U.setTop { g with pc := g.pc + 3, stack := v.toList ++ rest }) target → Steps p.tables e below (T.setTop g) target) ∨
    (∃ (q : Addr) (vm₁ : Vm) (B : Pt), s.WarmedH vm₁ ∧ Stand p l e R s m args below meth c B.U B.locs B.cells B.slots ∧ PostX ⟨T.setVm vm₁, locs, cells, slots⟩ argsL.toArray q B ∧
      Steps p.tables e below (T.setTop g) ((B.U.setTop { g with stack := rest }).pushFrame (.throwing q))) := by
  obtain ⟨mk, hnamed⟩ := Cond.code_named hcode
  obtain ⟨methM, cM, hmethM, -, -, -, -, -, -, hsigM⟩ := Cond.code_spec hnamed hcode
  have hstatic : methM.isStatic = true := Cond.static_spec hnamed hmethM hstat
  obtain ⟨kP, hkP, -⟩ := className_of_methodNamed hnamed
  have hinitP : kP.init = .initialized := Cond.initialized_spec (findClass_of_methodNamed hnamed) hkP hinit
  obtain ⟨vm₁, X₁, hstep₁⟩ := X.invokestaticNest hexec hown hlink hnamed hmethM hstatic hkP hinitP hy (g := g) hg (argsL := argsL) (rest := rest) (hlen _ hsigM) hstack hdg
  rcases hK m meth c ⟨T.setVm vm₁, locs, cells, slots⟩ { g with stack := rest } (.invokestatic index) mk argsL.toArray X₁ hg hsize hdg hW (X₁.named hnamed) (hpre vm₁ X₁.warmed) with ⟨v, B, X', hpost, hsteps⟩ | ⟨q, B, X', hpost, hsteps⟩
  · exact Or.inl ⟨v, vm₁, B, X₁.warmed, X', hpost, fun target h => hstep₁ _ fun acts => by rw [doInvoke_state]; exact hsteps.trans h⟩
  · exact Or.inr ⟨q, vm₁, B, X₁.warmed, X', hpost, hstep₁ _ fun acts => by rw [doInvoke_state]; exact hsteps⟩
theorem vx_runVN {y : MethodName} {bytes cc : ByteArray} {maxL nL mc ms n index : Nat} {ret : Option FieldType} {ws : List Cond} {rm : Room} {Pc : Array Value → State → Prop} {Qc : Array Value → State → Outcome → State → Prop} {XC : String → State → State → Prop} {free : Addr → Prop} {Ts : List Cond} {own C host : String} {b : Addr} {As rest : List Value} {g : JFrame}
    (S : CallFix p m c cc nL s args Ts own) (hM : vx_Met l y ws rm Pc Qc XC mc ms free) (cw : va_CN R s args own index y host bytes maxL ret ws rm mc ms n ∧ (Cond.instanceMethod y).before args s = true ∧ (Cond.selects C y y).before args s = true) (hp : PreV s H C b Pc As)
    (hg : g.method = m) (hn : As.length = n) (hsize : g.locals.size = nL) (hstack : g.stack = As.reverse ++ .ref b :: rest) (hW : 2 * g.monitorRoom + (rest.map fun v => v.category).sum ≤ 8) (hdg : decode cc g.pc = .ok (.invokevirtual index, 3)) (hf : cells + mc ≤ R.cells ∧ slots + ms ≤ R.slots) :
    vx_Run p l e R s m args below meth c H locs cells slots mc ms g rest (Qc (Value.ref b :: As).toArray) XC free := by
  obtain ⟨⟨⟨hrc, hrs, hfr, hlo, hws, hcw⟩, hcode, hini, hy, hlen, hl⟩, hx1, hx2⟩ := cw
  have hK : vx_Back l R p e below s args y 3 8 (PreOf R mc ms Pc) (PostOf Qc mc ms free) (vx_Post XC mc ms free) := vx_back (bytes := bytes) (maxL := maxL) (ret := ret) hM hp.1 hrc hrs hfr hlo hws hcw (fun a' U hW => word_at hW (Or.inl (by first | rfl | simp [Cond.onTables, Cond.keeps, Cond.steady])) hini)
  obtain ⟨hx, hb, hml, ho, -⟩ := S
  obtain ⟨-, ⟨cellB, hcB, hoB, hclB⟩, hPc⟩ := hp
  intro T hT X
  rcases vx_callVN X hx (C := C) (bytes := bytes) (maxL := maxL) (ret := ret) ho hl hx1 hx2 hcode hy hK (by rw [hT]; exact hcB) hoB hclB hg (hsize.trans hml.symm) (argsL := As) (rest := rest) (fun sig h => hn.trans (hlen sig h)) hstack hW (by rw [hb]; exact hdg)
    (fun vm₁ hW₁ => ⟨hf.1, hf.2, hPc (T.setVm vm₁) hT hW₁⟩) with ⟨v, vm₁, ⟨U', l2, c2, s2⟩, hW₁, X', ⟨g', mk, t, L, e1, e2, hq, h1, hL, h2, h3⟩, st⟩ | ⟨q, vm₁, ⟨U', l2, c2, s2⟩, hW₁, X', ⟨g', mk, t, L, E, ce, e1, e2, hq, hce, hcv, hcl, h1, hL, h2, h3⟩, st⟩
  · dsimp only [Pt.U, Pt.locs, Pt.cells, Pt.slots] at X' e1 e2 h1 h2 h3 st
    subst h1; subst h2; subst h3
    exact Or.inl ⟨v, (T.setVm vm₁).calling g' mk (Value.ref b :: As).toArray, t, U', L, hT, X', hL, e1, e2, hq, st⟩
  · dsimp only [Pt.U, Pt.locs, Pt.cells, Pt.slots] at X' e1 e2 h1 h2 h3 st hcl
    subst h1; subst h2; subst h3
    exact Or.inr ⟨q, (T.setVm vm₁).calling g' mk (Value.ref b :: As).toArray, t, U', L, E, ce, hT, X', hL, e1, e2, hq, hce, hcv, vx_cls hW₁ hcl, st⟩
theorem vx_runSN {y : MethodName} {bytes cc : ByteArray} {maxL nL mc ms n index : Nat} {ret : Option FieldType} {ws : List Cond} {rm : Room} {Pc : Array Value → State → Prop} {Qc : Array Value → State → Outcome → State → Prop} {XC : String → State → State → Prop} {free : Addr → Prop} {Ts : List Cond} {own host : String} {As rest : List Value} {g : JFrame}
    (S : CallFix p m c cc nL s args Ts own) (hM : vx_Met l y ws rm Pc Qc XC mc ms free) (cw : va_CN R s args own index y host bytes maxL ret ws rm mc ms n ∧ (Cond.static y).before args s = true ∧ True) (hp : PreS s H Pc As)
    (hg : g.method = m) (hn : As.length = n) (hsize : g.locals.size = nL) (hstack : g.stack = As.reverse ++ rest) (hW : 2 * g.monitorRoom + (rest.map fun v => v.category).sum ≤ 8) (hdg : decode cc g.pc = .ok (.invokestatic index, 3)) (hf : cells + mc ≤ R.cells ∧ slots + ms ≤ R.slots) :
    vx_Run p l e R s m args below meth c H locs cells slots mc ms g rest (Qc As.toArray) XC free := by
  obtain ⟨⟨⟨hrc, hrs, hfr, hlo, hws, hcw⟩, hcode, hini, hy, hlen, hl⟩, hx1, hx2⟩ := cw
  have hK : vx_Back l R p e below s args y 3 8 (PreOf R mc ms Pc) (PostOf Qc mc ms free) (vx_Post XC mc ms free) := vx_back (bytes := bytes) (maxL := maxL) (ret := ret) hM hp.1 hrc hrs hfr hlo hws hcw (fun a' U hW => word_at hW (Or.inl (by first | rfl | simp [Cond.onTables, Cond.keeps, Cond.steady])) hini)
  obtain ⟨hx, hb, hml, ho, -⟩ := S
  have hPc := hp.2
  intro T hT X
  rcases vx_callSN X hx (bytes := bytes) (maxL := maxL) (ret := ret) ho hl hx1 hini hcode hy hK hg (hsize.trans hml.symm) (argsL := As) (rest := rest) (fun sig h => hn.trans (hlen sig h)) hstack hW (by rw [hb]; exact hdg)
    (fun vm₁ hW₁ => ⟨hf.1, hf.2, hPc (T.setVm vm₁) hT hW₁⟩) with ⟨v, vm₁, ⟨U', l2, c2, s2⟩, hW₁, X', ⟨g', mk, t, L, e1, e2, hq, h1, hL, h2, h3⟩, st⟩ | ⟨q, vm₁, ⟨U', l2, c2, s2⟩, hW₁, X', ⟨g', mk, t, L, E, ce, e1, e2, hq, hce, hcv, hcl, h1, hL, h2, h3⟩, st⟩
  · dsimp only [Pt.U, Pt.locs, Pt.cells, Pt.slots] at X' e1 e2 h1 h2 h3 st
    subst h1; subst h2; subst h3
    exact Or.inl ⟨v, (T.setVm vm₁).calling g' mk As.toArray, t, U', L, hT, X', hL, e1, e2, hq, st⟩
  · dsimp only [Pt.U, Pt.locs, Pt.cells, Pt.slots] at X' e1 e2 h1 h2 h3 st hcl
    subst h1; subst h2; subst h3
    exact Or.inr ⟨q, (T.setVm vm₁).calling g' mk As.toArray, t, U', L, E, ce, hT, X', hL, e1, e2, hq, hce, hcv, vx_cls hW₁ hcl, st⟩
end
/-! ===== END ===== -/
end
section
/-! THE PLAIN LAYER (4): calls, throws, returns -/
theorem za_sum (st : List Value) : (st.map fun v => v.category).sum ≤ 2 * st.length := by
  induction st with
  | nil => simp
  | cons v vs ih =>
    have : v.category ≤ 2 := by cases v <;> simp [Value.category]
    simp only [List.map_cons, List.sum_cons, List.length_cons]
    omega
/-- over the frame at pc, exception k thrown -/
def za_xw (C : za_C) (pc : Nat) (ls : za_L) (k : Nat) (h : za_H) (cells slots : Nat) : Prop :=
  ∀ (H : Heap) (locs : List Loc) (L : Array Slot) (rest : List Value) (q : Addr) (ce : Cell), za_R C.G h H → za_K C.G H → (∀ z ∈ locs, za_A C.G z.base) → za_l C.M.nL ls L → H[q]? = some ce → ce.vm = .none → C.s.vm.findClass (za_e k) = some ce.cls → vx_W C.p C.G.l C.e (za_R0 C) C.s C.m C.args C.below C.meth C.c H locs cells slots (za_Q0 C) (F0 C.m pc L rest) q
/-- a method's own facts in the tables: one that throws nothing by handlers of its own, or one that has some -/
def za_mk (M : za_M) (n : Nat) : Prop := za_cw M ∈ lw_tbl ∧ Cond.initialized M.y.cls ∈ lw_tbl ∧ (M.y.cls ≠ "java/lang/invoke/MethodHandle" ∧ M.y.cls ≠ "java/lang/invoke/VarHandle") ∧ (parseMethodDescriptor M.y.desc).map (fun d => d.parameters.length) = some n ∧ M.nL ≤ 20
def za_mv (own : String) (idx : Nat) (M : za_M) (n : Nat) : Prop := za_mk M n ∧ M.hh = [] ∧ Cond.methodLink own idx M.y ∈ lw_tbl ∧ Cond.instanceMethod M.y ∈ lw_tbl ∧ Cond.selects M.y.cls M.y M.y ∈ lw_tbl
def za_ms (own : String) (idx : Nat) (M : za_M) (n : Nat) : Prop := za_mk M n ∧ Cond.methodLink own idx M.y ∈ lw_tbl ∧ Cond.static M.y ∈ lw_tbl
def za_mi (own : String) (idx : Nat) (M : za_M) (n : Nat) : Prop := za_mk M n ∧ M.hh = [] ∧ M.ret = none ∧ M.y.name = "<init>" ∧ Cond.methodLink own idx M.y ∈ lw_tbl ∧ Cond.instanceMethod M.y ∈ lw_tbl
def za_mn (own : String) (idx : Nat) (M : za_M) (n : Nat) : Prop := za_mk M n ∧ M.hh = [] ∧ (∃ host, Cond.methodLinkNest own idx M.y host ∈ lw_tbl) ∧ Cond.static M.y ∈ lw_tbl
section ZD
variable {C : za_C} {pc : Nat} {ls : za_L} {st : List Value} {h : za_H} {cells slots : Nat}
theorem za_back (X : za_X C) {mc ms : Nat} {K : za_O → za_H → Prop} {rest st0 : List Value} {H : Heap} {locs : List Loc} {L : Array Slot} {a : Array Value}
    (hr : vx_Run C.p C.G.l C.e (za_R0 C) C.s C.m C.args C.below C.meth C.c H locs cells slots mc ms (F0 C.m pc L st0) rest (za_Qc C.G K a) (za_Xc C.G K) (za_A C.G)) (hl : ∀ z ∈ locs, za_A C.G z.base) (hL : za_l C.M.nL ls L)
    (kk : ∀ v h', K (.inl v) h' → za_w C (pc + 3) ls (v.toList ++ rest) h' (cells + mc) (slots + ms))
    (kx : ∀ k h', K (.inr k) h' → za_xw C pc ls k h' (cells + mc) (slots + ms)) :
    W C.p C.G.l C.e (za_R0 C) C.s C.m C.args C.below C.meth C.c H locs cells slots (za_Q0 C) (F0 C.m pc L st0) := by
  intro T hT Xs
  have hap : ∀ L', (∀ z ∈ L', za_A C.G z.base) → ∀ z ∈ locs ++ L', za_A C.G z.base := fun L' h9 z hz => by
    rcases List.mem_append.mp hz with q | q
    · exact hl z q
    · exact h9 z q
  rcases hr T hT Xs with ⟨v, st₀, t, T', L', h0, X', hL', e1, e2, ⟨v', h', hv, hk, hRt, hKt⟩, st9⟩ | ⟨q, st₀, t, T', L', E, ce, h0, X', hL', e1, e2, ⟨k, h', rfl, hk, hRt, hKt⟩, hce, hcv, hcl, st9⟩
  · cases hv
    obtain ⟨t2, a1, b1⟩ := kk v h' hk T'.heap (locs ++ L') L (by rw [e1]; exact hRt) (by rw [e1]; exact hKt) (hap L' hL') hL T' rfl X'
    exact ⟨t2, st9 t2 a1, b1⟩
  · obtain ⟨t2, a1, b1⟩ := kx k h' hk T'.heap (locs ++ L') L rest q ce (by rw [e1]; exact hRt) (by rw [e1]; exact hKt) (hap L' hL') hL (by rw [e1]; exact hce) hcv hcl T' rfl X'
    exact ⟨t2, st9.trans a1, b1⟩
theorem za_xout (X : za_X C) {k : Nat} (hh : C.M.hh = []) (hc : cells ≤ C.mc) (hs : slots ≤ C.ms) (hk : C.K (.inr k) h) : za_xw C pc ls k h cells slots := fun H locs L rest q ce hR hK hl hL hq hv hcl => by
  have ht : C.c.exceptionTable.toList = [] := by rw [X.2.2.2.2.2.2.2.2.2, hh]; rfl
  exact vx_out (E := za_e k) (fun x hx => by rw [ht] at hx; cases hx) X.2.2.2.2.1 hq hv hcl (fun t ht _ => ⟨k, h, rfl, hk, by rw [ht]; exact hR, by rw [ht]; exact hK⟩) hl hc hs
/-- the handler of exception k at pc -/
def za_fd (pc k : Nat) : List (Nat × Nat × Nat × Nat) → List Nat → Option Nat
  | t :: ts, x :: xs => if t.1 ≤ pc ∧ pc < t.2.1 ∧ x = k then some t.2.2.1 else za_fd pc k ts xs
  | _, _ => none
/-- which exceptions the handlers take -/
def za_ht (own : String) : List (Nat × Nat × Nat × Nat) → List Nat → Prop
  | t :: ts, x :: xs => t.2.2.2 ≠ 0 ∧ x < 3 ∧ Cond.classLink own t.2.2.2 (za_e x) ∈ lw_tbl ∧ Cond.castable (za_e x) (za_e x) ∈ lw_tbl ∧ za_ht own ts xs
  | _, _ => True
theorem za_fd_split (pc k : Nat) (own : String) : ∀ (hh : List (Nat × Nat × Nat × Nat)) (hx : List Nat) (hp : Nat), za_ht own hh hx → za_fd pc k hh hx = some hp → ∃ (pre : List ExceptionTableEntry) (x : ExceptionTableEntry) (suf : List ExceptionTableEntry), tableOf hh = pre ++ x :: suf ∧ (∀ z ∈ pre, covers z pc = false ∨ (z.catchType ≠ 0 ∧ ∃ j, j < 3 ∧ j ≠ k ∧ Cond.classLink own z.catchType (za_e j) ∈ lw_tbl)) ∧ covers x pc = true ∧ x.catchType ≠ 0 ∧ k < 3 ∧ Cond.classLink own x.catchType (za_e k) ∈ lw_tbl ∧ Cond.castable (za_e k) (za_e k) ∈ lw_tbl ∧ x.handlerPc = hp := by
  intro hh
  induction hh with
  | nil => intro hx hp _ h; cases h
  | cons t ts ih =>
    intro hx hp ht hf
    cases hx with
    | nil => cases hf
    | cons x xs =>
      obtain ⟨h1, h2, h3, h4, h5⟩ := ht
      unfold za_fd at hf
      by_cases hc : t.1 ≤ pc ∧ pc < t.2.1 ∧ x = k
      · rw [if_pos hc] at hf
        cases hf
        obtain ⟨c1, c2, rfl⟩ := hc
        exact ⟨[], ⟨t.1, t.2.1, t.2.2.1, t.2.2.2⟩, tableOf ts, rfl, (fun z hz => by cases hz), by simp [covers, c1, c2], h1, h2, h3, h4, rfl⟩
      · rw [if_neg hc] at hf
        obtain ⟨pre, y, suf, e1, e2, e3⟩ := ih xs hp h5 hf
        refine ⟨⟨t.1, t.2.1, t.2.2.1, t.2.2.2⟩ :: pre, y, suf, by show _ :: tableOf ts = _; rw [e1]; rfl, fun z hz => ?_, e3⟩
        rcases List.mem_cons.mp hz with rfl | hz
        · by_cases c1 : t.1 ≤ pc ∧ pc < t.2.1
          · exact Or.inr ⟨h1, x, h2, fun e => hc ⟨c1.1, c1.2, e⟩, h3⟩
          · left
            simp only [covers]
            by_cases c2 : t.1 ≤ pc
            · have : ¬ pc < t.2.1 := fun q => c1 ⟨c2, q⟩
              simp [this]
            · simp [c2]
        · exact e2 z hz
theorem za_e3 {j k : Nat} (hj : j < 3) (hk : k < 3) (h : j ≠ k) : za_e j ≠ za_e k := by
  match j, k, hj, hk, h with
  | 0, 0, _, _, h => exact absurd rfl h
  | 1, 1, _, _, h => exact absurd rfl h
  | 2, 2, _, _, h => exact absurd rfl h
  | 0, 1, _, _, _ => exact (by decide +kernel)
  | 0, 2, _, _, _ => exact (by decide +kernel)
  | 1, 0, _, _, _ => exact (by decide +kernel)
  | 1, 2, _, _, _ => exact (by decide +kernel)
  | 2, 0, _, _, _ => exact (by decide +kernel)
  | 2, 1, _, _, _ => exact (by decide +kernel)
theorem za_em {k : Nat} (hk : k < 3) : za_e k ∈ ["java/lang/IllegalArgumentException", "java/lang/IllegalStateException", "java/lang/IndexOutOfBoundsException"] := by
  match k, hk with
  | 0, _ => exact List.mem_cons_self
  | 1, _ => exact List.mem_cons_of_mem _ List.mem_cons_self
  | 2, _ => exact List.mem_cons_of_mem _ (List.mem_cons_of_mem _ List.mem_cons_self)
theorem za_xin (X : za_X C) {k hp : Nat} {hx : List Nat} (ht : za_ht C.M.y.cls C.M.hh hx) (hf : za_fd pc k C.M.hh hx = some hp) (kk : ∀ q, za_w C hp ls [.ref q] h cells slots) : za_xw C pc ls k h cells slots := fun H locs L rest q ce hR hK hl hL hq hv hcl => by
  obtain ⟨pre, x, suf, e1, e2, e3, e4, e5, e6, e7, e8⟩ := za_fd_split pc k _ _ _ _ ht hf
  refine vx_catch X.2.2.2.1 pre x suf (by rw [X.2.2.2.2.2.2.2.2.2]; exact e1) (fun z hz => ?_) e3 e4 (za_wd X e6 rfl) (za_cst X e7) hq hv hcl ?_
  · rcases e2 z hz with h9 | ⟨g1, j, g2, g3, g4⟩
    · exact Or.inl h9
    · exact Or.inr ⟨g1, za_e j, za_wd X g4 rfl, va_Nc.moved (za_al X) (X.2.2.2.2.2.2.1.2.2.2.2.2.2.2.2.2.2 _ _ (za_em e5) (za_em g2) (za_e3 e5 g2 (Ne.symm g3)))⟩
  · rw [e8]
    exact kk q H locs L hR hK hl hL
theorem za_lo {M : za_M} {fr : Nat} (h1 : M.fr + 1 ≤ fr) (h2 : M.nL ≤ 20) : 8 + (M.nL + 11) + 39 * M.fr ≤ 39 * fr := by omega
theorem za_cwc {M : za_M} (h : M.hh = []) : za_cw M = .code M.y M.cc M.nL M.ret := by unfold za_cw; rw [h]
theorem za_gcw (M : za_M) : goodWord (za_cw M) = true := by unfold za_cw; split <;> rfl
theorem za_hws (X : za_X C) {M : za_M} (hm : za_cw M ∈ lw_tbl) : ∀ w ∈ [za_cw M], ∀ (a' : Array Value) (U : State), C.s.WarmedH U.vm → w.before a' U = true := fun w hw a' U hW => by
  rw [List.mem_singleton.mp hw]
  exact za_word X.2.2.2.2.2.2.1 (State.WarmedH.trans X.2.2.2.2.2.1.1 hW) hm (za_gcw M) a'
theorem za_len {M : za_M} {n : Nat} (h : (parseMethodDescriptor M.y.desc).map (fun d => d.parameters.length) = some n) : ∀ sig, parseMethodDescriptor M.y.desc = some sig → n = sig.parameters.length := fun sig hs => by
  rw [hs] at h
  exact (Option.some.inj h).symm
theorem za_blind (G : za_G) (as : List Value) (h : za_H) : FrameBlind (za_Pc G as h) := fun _ _ _ _ q => q
theorem za_pre (X : za_X C) {as : List Value} {H : Heap} (hR : za_R C.G h H) (hK : za_K C.G H) : ∀ U : State, U.heap = H → C.s.WarmedH U.vm → za_Pc C.G as h as.toArray U := fun U hU hW => ⟨rfl, ⟨State.WarmedH.trans X.2.2.2.2.2.1.1 hW, by rw [hU]; exact hK⟩, by rw [hU]; exact hR⟩
theorem za_cwV (X : za_X C) {idx n mc ms : Nat} {M : za_M} (hm : za_mv C.M.y.cls idx M n) (hfr : M.fr + 1 ≤ C.M.fr) : CallW (za_R0 C) C.s C.args C.M.y.cls M.y.cls idx M.y M.cc M.nL M.ret [za_cw M] (za_rm M.fr mc ms) mc ms n := by
  obtain ⟨⟨m1, m2, m3, m4, m5⟩, m6, m7, m8, m9⟩ := hm
  exact ⟨⟨rfl, rfl, hfr, za_lo hfr m5, za_hws X m1, by rw [za_cwc m6]; exact List.mem_cons_self, by rw [← za_cwc m6]; exact za_wd X m1 (za_gcw M), za_wd X m2 rfl, m3, za_len m4, za_wd X m7 rfl⟩, za_wd X m8 rfl, za_wd X m9 rfl⟩
theorem za_invV (X : za_X C) {idx ci n b mc ms : Nat} {M : za_M} {as rest fs : List Value} {r : vw_C} {K : za_O → za_H → Prop} (d : decode C.M.cc pc = .ok (.invokevirtual idx, 3)) (hm : za_mv C.M.y.cls idx M n) (hn : as.length = n) (hb : h b = some (.inr (ci, fs))) (hci : vwCl[ci]? = some r) (hrc : r.1 = M.y.cls) (hfr : M.fr + 1 ≤ C.M.fr) (hr : rest.length ≤ 4) (hc : cells + mc ≤ C.mc) (hs : slots + ms ≤ C.ms) (hP : za_P C.G M (.ref b :: as) h mc ms K)
    (kk : ∀ v h', K (.inl v) h' → za_w C (pc + 3) ls (v.toList ++ rest) h' (cells + mc) (slots + ms)) (kx : ∀ k h', K (.inr k) h' → za_xw C pc ls k h' (cells + mc) (slots + ms)) : za_w C pc ls (as.reverse ++ .ref b :: rest) h cells slots := fun H locs L hR hK hl hL => by
  obtain ⟨r', h1, -, hrecv⟩ := za_ob X hR hb
  cases hci.symm.trans h1
  rw [hrc] at hrecv
  refine za_back X (rest := rest) (vx_runV (Ts := []) (As := as) (rest := rest) ⟨X.1, X.2.1, X.2.2.1, X.2.2.2.1, fun w hw => by cases hw⟩ hP (za_cwV X hm hfr) ⟨za_blind _ _ _, hrecv, za_pre X hR hK⟩ rfl hn hL.size rfl (lv_room ?_) d ⟨hc, hs⟩) hl hL kk kx
  have := za_sum rest
  omega
theorem za_invS (X : za_X C) {idx n mc ms : Nat} {M : za_M} {as rest : List Value} {K : za_O → za_H → Prop} (d : decode C.M.cc pc = .ok (.invokestatic idx, 3)) (hm : za_ms C.M.y.cls idx M n) (hn : as.length = n) (hfr : M.fr + 1 ≤ C.M.fr) (hr : rest.length ≤ 4) (hc : cells + mc ≤ C.mc) (hs : slots + ms ≤ C.ms) (hP : za_P C.G M as h mc ms K)
    (kk : ∀ v h', K (.inl v) h' → za_w C (pc + 3) ls (v.toList ++ rest) h' (cells + mc) (slots + ms)) (kx : ∀ k h', K (.inr k) h' → za_xw C pc ls k h' (cells + mc) (slots + ms)) : za_w C pc ls (as.reverse ++ rest) h cells slots := fun H locs L hR hK hl hL => by
  obtain ⟨⟨m1, m2, m3, m4, m5⟩, m7, m8⟩ := hm
  have hsum := za_sum rest
  cases hh : M.hh with
  | nil =>
    refine za_back X (rest := rest) (vx_runS (Ts := []) (As := as) (rest := rest) ⟨X.1, X.2.1, X.2.2.1, X.2.2.2.1, fun w hw => by cases hw⟩ hP (bytes := M.cc) (maxL := M.nL) (ret := M.ret) (n := n) ⟨⟨rfl, rfl, hfr, za_lo hfr m5, za_hws X m1, by rw [za_cwc hh]; exact List.mem_cons_self, by rw [← za_cwc hh]; exact za_wd X m1 (za_gcw M), za_wd X m2 rfl, m3, za_len m4, za_wd X m7 rfl⟩, za_wd X m8 rfl⟩ ⟨za_blind _ _ _, za_pre X hR hK⟩ rfl hn hL.size rfl (lv_room (by omega)) d ⟨hc, hs⟩) hl hL kk kx
  | cons t ts =>
    have ec : za_cw M = .codeWith M.y M.cc M.nL M.ret M.hh := by unfold za_cw; rw [hh]
    refine za_back X (rest := rest) (vx_runSX (hh := M.hh) (Ts := []) (As := as) (rest := rest) ⟨X.1, X.2.1, X.2.2.1, X.2.2.2.1, fun w hw => by cases hw⟩ hP (bytes := M.cc) (maxL := M.nL) (ret := M.ret) (n := n) ⟨⟨rfl, rfl, hfr, za_lo hfr m5, za_hws X m1, by rw [ec]; exact List.mem_cons_self⟩, by rw [← ec]; exact za_wd X m1 (za_gcw M), za_wd X m2 rfl, m3, za_len m4, za_wd X m7 rfl, za_wd X m8 rfl⟩ ⟨za_blind _ _ _, za_pre X hR hK⟩ rfl hn hL.size rfl (lv_room (by omega)) d ⟨hc, hs⟩) hl hL kk kx
theorem za_invN (X : za_X C) {idx n mc ms : Nat} {M : za_M} {as rest : List Value} {K : za_O → za_H → Prop} (d : decode C.M.cc pc = .ok (.invokestatic idx, 3)) (hm : za_mn C.M.y.cls idx M n) (hn : as.length = n) (hfr : M.fr + 1 ≤ C.M.fr) (hr : rest.length ≤ 4) (hc : cells + mc ≤ C.mc) (hs : slots + ms ≤ C.ms) (hP : za_P C.G M as h mc ms K)
    (kk : ∀ v h', K (.inl v) h' → za_w C (pc + 3) ls (v.toList ++ rest) h' (cells + mc) (slots + ms)) (kx : ∀ k h', K (.inr k) h' → za_xw C pc ls k h' (cells + mc) (slots + ms)) : za_w C pc ls (as.reverse ++ rest) h cells slots := fun H locs L hR hK hl hL => by
  obtain ⟨⟨m1, m2, m3, m4, m5⟩, m6, ⟨host, m7⟩, m8⟩ := hm
  have hsum := za_sum rest
  have hlink : (Cond.methodLinkNest C.M.y.cls idx M.y host).before C.args C.s = true := by
    obtain ⟨A0, hA0⟩ := X.2.2.2.2.2.2.1.2.1
    exact va_Nw.use rfl (va_Nw.warmM X.2.2.2.2.2.1.1 (va_Nw.of rfl (hA0 _ m7)))
  refine za_back X (rest := rest) (vx_runSN (Ts := []) (As := as) (rest := rest) ⟨X.1, X.2.1, X.2.2.1, X.2.2.2.1, fun w hw => by cases hw⟩ hP (bytes := M.cc) (maxL := M.nL) (ret := M.ret) (n := n) ⟨⟨⟨rfl, rfl, hfr, za_lo hfr m5, za_hws X m1, by rw [za_cwc m6]; exact List.mem_cons_self⟩, by rw [← za_cwc m6]; exact za_wd X m1 (za_gcw M), za_wd X m2 rfl, m3, za_len m4, hlink⟩, za_wd X m8 rfl, trivial⟩ ⟨za_blind _ _ _, za_pre X hR hK⟩ rfl hn hL.size rfl (lv_room (by omega)) d ⟨hc, hs⟩) hl hL kk kx
theorem za_invI (X : za_X C) {idx n b mc ms : Nat} {M : za_M} {as rest : List Value} {K : za_O → za_H → Prop} (d : decode C.M.cc pc = .ok (.invokespecial idx, 3)) (hm : za_mi C.M.y.cls idx M n) (hn : as.length = n) (hfr : M.fr + 1 ≤ C.M.fr) (hr : rest.length ≤ 4) (hc : cells + mc ≤ C.mc) (hs : slots + ms ≤ C.ms) (hP : za_P C.G M (.ref b :: as) h mc ms K)
    (kk : ∀ v h', K (.inl v) h' → za_w C (pc + 3) ls (v.toList ++ rest) h' (cells + mc) (slots + ms)) (kx : ∀ k h', K (.inr k) h' → za_xw C pc ls k h' (cells + mc) (slots + ms)) : za_w C pc ls (as.reverse ++ .ref b :: rest) h cells slots := fun H locs L hR hK hl hL => by
  obtain ⟨⟨m1, m2, m3, m4, m5⟩, m6, mr, mn, m7, m8⟩ := hm
  have hsum := za_sum rest
  have ec : za_cw M = .code M.y M.cc M.nL none := by rw [za_cwc m6, mr]
  refine za_back X (rest := rest) (vx_runI (Ts := []) (As := as) (rest := rest) ⟨X.1, X.2.1, X.2.2.1, X.2.2.2.1, fun w hw => by cases hw⟩ hP (bytes := M.cc) (maxL := M.nL) (n := n) ⟨⟨rfl, rfl, hfr, za_lo hfr m5, za_hws X m1, by rw [ec]; exact List.mem_cons_self, by rw [← ec]; exact za_wd X m1 (za_gcw M), za_wd X m2 rfl, m3, za_len m4, za_wd X m7 rfl⟩, mn, za_wd X m8 rfl⟩ ⟨za_blind _ _ _, za_pre X hR hK⟩ rfl hn hL.size rfl (lv_room (by omega)) d ⟨hc, hs⟩) hl hL kk kx
/-- the ends -/
theorem za_ret {R : Room} {H : Heap} {locs : List Loc} {L : Array Slot} {st : List Value} {pc : Nat} (hc : cells ≤ C.mc) (hs : slots ≤ C.ms) (k : W C.p C.G.l C.e R C.s C.m C.args C.below C.meth C.c H locs C.mc C.ms (MQ C.below (za_Qc C.G C.K) C.args C.s C.mc C.ms (za_A C.G)) (F0 C.m pc L st)) : W C.p C.G.l C.e R C.s C.m C.args C.below C.meth C.c H locs cells slots (za_Q0 C) (F0 C.m pc L st) := W.widen hc hs (vx_ret k)
theorem za_ireturn (X : za_X C) {v : Int32} {ty : FieldType} (d : decode C.M.cc pc = .ok (.ireturn, 1)) (hr : C.M.ret = some ty) (hv : narrow ty (.int v) = .int v) (hc : cells ≤ C.mc) (hs : slots ≤ C.ms) (k : C.K (.inl (some (.int v))) h) : za_w C pc ls [.int v] h cells slots := fun H locs L hR hK hl hL =>
  za_ret hc hs (W.zret X.1 X.2.1 (by rw [X.2.2.2.2.2.2.2.2.1]; exact hr) hv (fun t ht hW => ⟨_, h, rfl, k, by rw [ht]; exact hR, by rw [ht]; exact hK⟩) hl d (hlocks := X.2.2.2.2.1))
theorem za_return (X : za_X C) (d : decode C.M.cc pc = .ok (.return_, 1)) (hr : C.M.ret = none) (hc : cells ≤ C.mc) (hs : slots ≤ C.ms) (k : C.K (.inl none) h) : za_w C pc ls [] h cells slots := fun H locs L hR hK hl hL =>
  za_ret hc hs (W.vret X.1 X.2.1 (by rw [X.2.2.2.2.2.2.2.2.1]; exact hr) (fun t ht hW => ⟨_, h, rfl, k, by rw [ht]; exact hR, by rw [ht]; exact hK⟩) hl d (hlocks := X.2.2.2.2.1))
theorem za_areturn (X : za_X C) {v : Value} {ty : FieldType} (d : decode C.M.cc pc = .ok (.areturn, 1)) (hr : C.M.ret = some ty) (ht : (∃ n, ty = .object n) ∨ ∃ t, ty = .array t) (hv : za_rf v) (hc : cells ≤ C.mc) (hs : slots ≤ C.ms) (k : C.K (.inl (some v)) h) : za_w C pc ls [v] h cells slots := fun H locs L hR hK hl hL =>
  za_ret hc hs (W.aret X.1 X.2.1 (by rw [X.2.2.2.2.2.2.2.2.1]; exact hr) ht hv (fun t ht hW => ⟨_, h, rfl, k, by rw [ht]; exact hR, by rw [ht]; exact hK⟩) hl d (hlocks := X.2.2.2.2.1))
end ZD
end
section
/-! THE PLAIN LAYER (5): throw, getClass, arraycopy -/
/-- a word that a warmer table keeps -/
def za_gw (w : Jvm.Cond) : Bool := goodWord w || (match w with
  | .castable _ _ => true
  | .declares _ => true
  | _ => false)
def za_nm : List String := ["java/lang/RuntimeException", "java/lang/Exception"]
section ZE
variable {C : za_C} {pc : Nat} {ls : za_L} {st : List Value} {h : za_H} {cells slots : Nat}
theorem za_wd2 (X : za_X C) {w : Jvm.Cond} (hw : w ∈ lw_tbl) (hg : za_gw w = true) : w.before C.args C.s = true := by
  obtain ⟨A0, hA0⟩ := X.2.2.2.2.2.2.1.2.1
  cases hgo : goodWord w with
  | true => exact za_wd X hw hgo
  | false =>
    unfold za_gw at hg
    rw [hgo, Bool.false_or] at hg
    cases w <;> simp only [Bool.false_eq_true] at hg
    · exact va_Nw.use rfl (va_Nw.warmD X.2.2.2.2.2.1.1 (va_Nw.of rfl (hA0 _ hw)))
    · exact za_cst X hw
/-- a throw's link: class, text, constructor, exception k -/
def za_tl (own : String) (ik is ic k : Nat) : Prop := (own = RX7 ∨ own = RX3) ∧ k < 3 ∧ (∃ text, Jvm.Cond.stringRef own is text ∈ lw_tbl) ∧ Jvm.Cond.classLink own ik (za_e k) ∈ lw_tbl ∧ Jvm.Cond.initialized (za_e k) ∈ lw_tbl ∧
  (∀ w ∈ vx_atS own ic (za_e k) za_nm, w ∈ lw_tbl) ∧ (∀ w ∈ vx_atS own ic (za_e k) za_nm, za_gw w = true) ∧ (∀ w ∈ Jvm.Cond.classLink own ik (za_e k) :: Jvm.Cond.initialized (za_e k) :: vx_atS own ic (za_e k) za_nm, vx_ot w = true)
theorem za_fitE {k : Nat} (hk : k < 3) : Bundle.fit (za_e k) = true := by
  match k, hk with
  | 0, _ => decide +kernel
  | 1, _ => decide +kernel
  | 2, _ => decide +kernel
theorem za_nmE : ∀ n ∈ za_nm, Bundle.fit n = true := by decide +kernel
theorem za_vS (X : za_X C) {H : Heap} {locs : List Loc} (hK : za_K C.G H) (hz : C.s.heap.size ≤ H.size) (hl : ∀ z ∈ locs, za_A C.G z.base) : va_S (za_A C.G) C.s.heap H locs :=
  ⟨hz, fun q _ h => by
    rw [hK.2 q h, X.2.2.2.2.2.1.2.2 q h], hl⟩
theorem za_str (X : za_X C) {own : String} {is : Nat} {text : String} (ho : own = RX7 ∨ own = RX3) (hs : Jvm.Cond.stringRef own is text ∈ lw_tbl) : ∃ sa, vk_R own is text sa C.s := by
  have F := X.2.2.2.2.2.2.1
  have hW := X.2.2.2.2.2.1.1
  rcases ho with rfl | rfl
  · obtain ⟨sa, h1⟩ := F.2.2.2.2.2.2.2.1 is text hs
    exact ⟨sa, vk_R.warm hW h1⟩
  · obtain ⟨sa, h1⟩ := F.2.2.2.2.2.2.2.2.1 is text hs
    exact ⟨sa, vk_R.warm hW h1⟩
theorem za_zq (X : za_X C) {n d : String} (hz : vx_Zq Bundle.tN n d (za_A C.G) C.G.s C.G.s.heap) : vx_Zq Bundle.tN n d (za_A C.G) C.s C.s.heap :=
  vx_Zq.moved (za_al X) (hz.kept fun a ha hA => X.2.2.2.2.2.1.2.2 a hA)
theorem za_throw (X : za_X C) {ik is ic k : Nat} (hh : C.M.hh = []) (ht : za_tl C.M.y.cls ik is ic k) (d0 : decode C.M.cc pc = .ok (.new ik, 3)) (d3 : decode C.M.cc (pc + 3) = .ok (.dup, 1)) (d4 : decode C.M.cc (pc + 4) = .ok (.ldc is, 2)) (d6 : decode C.M.cc (pc + 6) = .ok (.invokespecial ic, 3)) (d9 : decode C.M.cc (pc + 9) = .ok (.athrow, 1))
    (hfr : 6 ≤ C.M.fr) (hst : st.length ≤ 4) (hc : cells + 1 ≤ C.mc) (hs : slots + 6 ≤ C.ms) (hk : C.K (.inr k) h) : za_w C pc ls st h cells slots := fun H locs L hR hK hl hL => by
  obtain ⟨ho, hk3, ⟨text, t1⟩, t2, t3, t4, t5, t6⟩ := ht
  obtain ⟨sa, hstr⟩ := za_str X ho t1
  have htab : C.c.exceptionTable.toList = [] := by rw [X.2.2.2.2.2.2.2.2.2, hh]; rfl
  have F := X.2.2.2.2.2.2.1
  have hsum := za_sum st
  intro T hT Xs
  have hz : C.s.heap.size ≤ H.size := by rw [← hT]; exact Xs.same.2.1
  exact vx_throwS X.1 X.2.1 F.1 X.2.2.2.1 (za_fitE hk3) za_nmE (za_wd X t2 rfl) (za_wd X t3 rfl) hstr (fun w hw => za_wd2 X (t4 w hw) (t5 w hw)) t6 (za_zq X F.2.2.2.2.2.1) (za_zq X F.2.2.2.2.2.2.1) (za_vS X hK hz hl) (by rw [hL.size, X.2.2.1])
    d0 d3 d4 d6 d9 (fun x hx => by rw [htab] at hx; cases hx) (by show 2 + 3 < C.M.fr; omega) (by show _ + (13 * (2 + 1) + 43) ≤ 39 * C.M.fr; omega) hc hs X.2.2.2.2.1
    (fun t _ h1 h2 => ⟨k, h, rfl, hk, hR.grow h2, hK.push h1 h2⟩) hl hc hs T hT Xs
theorem za_throwW (X : za_X C) {ik is ic k : Nat} (hh : C.M.hh = []) (ht : za_tl C.M.y.cls ik is ic k) (d0 : decode C.M.cc pc = .ok (.new ik, 3)) (d3 : decode C.M.cc (pc + 3) = .ok (.dup, 1)) (d4 : decode C.M.cc (pc + 4) = .ok (.ldc_w is, 3)) (d6 : decode C.M.cc (pc + 7) = .ok (.invokespecial ic, 3)) (d9 : decode C.M.cc (pc + 10) = .ok (.athrow, 1))
    (hfr : 6 ≤ C.M.fr) (hst : st.length ≤ 4) (hc : cells + 1 ≤ C.mc) (hs : slots + 6 ≤ C.ms) (hk : C.K (.inr k) h) : za_w C pc ls st h cells slots := fun H locs L hR hK hl hL => by
  obtain ⟨ho, hk3, ⟨text, t1⟩, t2, t3, t4, t5, t6⟩ := ht
  obtain ⟨sa, hstr⟩ := za_str X ho t1
  have htab : C.c.exceptionTable.toList = [] := by rw [X.2.2.2.2.2.2.2.2.2, hh]; rfl
  have F := X.2.2.2.2.2.2.1
  have hsum := za_sum st
  intro T hT Xs
  have hz : C.s.heap.size ≤ H.size := by rw [← hT]; exact Xs.same.2.1
  exact vx_throwSW X.1 X.2.1 F.1 X.2.2.2.1 (za_fitE hk3) za_nmE (za_wd X t2 rfl) (za_wd X t3 rfl) hstr (fun w hw => za_wd2 X (t4 w hw) (t5 w hw)) t6 (za_zq X F.2.2.2.2.2.1) (za_zq X F.2.2.2.2.2.2.1) (za_vS X hK hz hl) (by rw [hL.size, X.2.2.1])
    d0 d3 d4 d6 d9 (fun x hx => by rw [htab] at hx; cases hx) (by show 2 + 3 < C.M.fr; omega) (by show _ + (13 * (2 + 1) + 43) ≤ 39 * C.M.fr; omega) hc hs X.2.2.2.2.1
    (fun t _ h1 h2 => ⟨k, h, rfl, hk, hR.grow h2, hK.push h1 h2⟩) hl hc hs T hT Xs
def za_max (a b : Int32) : Int32 := if a < b then b else a
def za_min (a b : Int32) : Int32 := if b < a then b else a
theorem za_mmax (X : za_X C) {idx : Nat} {a b : Int32} (d : decode C.M.cc pc = .ok (.invokestatic idx, 3)) (h1 : Jvm.Cond.methodLink C.M.y.cls idx Lib.Math.max.name ∈ lw_tbl) (h2 : Jvm.Cond.static Lib.Math.max.name ∈ lw_tbl) (h3 : Jvm.Cond.initialized "java/lang/Math" ∈ lw_tbl) (h4 : Jvm.Cond.code Lib.Math.max.name Lib.Math.max.code 2 (some .int) ∈ lw_tbl) (hfr : 1 ≤ C.M.fr) (hc : cells ≤ C.mc) (hs : slots ≤ C.ms) (hst : st.length ≤ 4) (k : za_w C (pc + 3) ls (.int (za_max a b) :: st) h cells slots) : za_w C pc ls (.int b :: .int a :: st) h cells slots := fun H locs L hR hK hl hL => by
  have hsum := za_sum st
  refine va_mmax X.1 X.2.1 (by rw [X.2.2.1, hL.size]) X.2.2.2.1 (za_wd X h1 rfl) (za_wd X h2 rfl) (za_wd X h3 rfl) (za_wd X h4 rfl) hfr ?_ hc hs d (k H locs L hR hK hl hL)
  show _ + 13 ≤ 39 * C.M.fr
  omega
theorem za_mmin (X : za_X C) {idx : Nat} {a b : Int32} (d : decode C.M.cc pc = .ok (.invokestatic idx, 3)) (h1 : Jvm.Cond.methodLink C.M.y.cls idx Lib.Math.min.name ∈ lw_tbl) (h2 : Jvm.Cond.static Lib.Math.min.name ∈ lw_tbl) (h3 : Jvm.Cond.initialized "java/lang/Math" ∈ lw_tbl) (h4 : Jvm.Cond.code Lib.Math.min.name Lib.Math.min.code 2 (some .int) ∈ lw_tbl) (hfr : 1 ≤ C.M.fr) (hc : cells ≤ C.mc) (hs : slots ≤ C.ms) (hst : st.length ≤ 4) (k : za_w C (pc + 3) ls (.int (za_min a b) :: st) h cells slots) : za_w C pc ls (.int b :: .int a :: st) h cells slots := fun H locs L hR hK hl hL => by
  have hsum := za_sum st
  refine va_mmin X.1 X.2.1 (by rw [X.2.2.1, hL.size]) X.2.2.2.1 (za_wd X h1 rfl) (za_wd X h2 rfl) (za_wd X h3 rfl) (za_wd X h4 rfl) hfr ?_ hc hs d (k H locs L hR hK hl hL)
  show _ + 13 ≤ 39 * C.M.fr
  omega
def za_gc : MethodName := ⟨"java/lang/Object", "getClass", "()Ljava/lang/Class;"⟩
theorem za_getC (X : za_X C) {idx a : Nat} {x : vp_A} (d : decode C.M.cc pc = .ok (.invokevirtual idx, 3)) (ha : h a = some (.inl (.object "java/lang/Object", x))) (h1 : Jvm.Cond.methodLink C.M.y.cls idx za_gc ∈ lw_tbl) (h2 : Jvm.Cond.declares za_gc ∈ lw_tbl) (h3 : Jvm.Cond.selects "[Ljava/lang/Object;" za_gc za_gc ∈ lw_tbl) (h4 : Jvm.Cond.instanceMethod za_gc ∈ lw_tbl) (h5 : Jvm.Cond.native za_gc ∈ lw_tbl) (hfr : 1 ≤ C.M.fr) (hst : st.length ≤ 4) (k : za_w C (pc + 3) ls (.ref C.G.mi :: st) h cells slots) : za_w C pc ls (.ref a :: st) h cells slots := fun H locs L hR hK hl hL => by
  obtain ⟨cA, a1, a2, a3⟩ := za_arr X hR ha (fun q => by cases q)
  have hsum := za_sum st
  refine va_getC (C := "[Ljava/lang/Object;") X.1 X.2.1 (by rw [X.2.2.1, hL.size]) X.2.2.2.1 (za_wd X h1 rfl) (za_wd2 X h2 rfl) (za_wd X h3 rfl) (za_wd X h4 rfl) (za_wd X h5 rfl) (va_Mi.moved (za_al X) X.2.2.2.2.2.2.1.2.2.2.2.2.2.2.2.2.1) ⟨_, a3, ?_, ?_⟩ hfr ?_ d (k H locs L hR hK hl hL)
  · obtain ⟨n, f | f | f | f | f⟩ := x <;> rfl
  · have hn := va_nmO (nm := "[Ljava/lang/Object;") a2 (by decide +kernel)
    rw [hn]
    obtain ⟨n, f | f | f | f | f⟩ := x <;> rfl
  · show _ + 14 ≤ 39 * C.M.fr
    omega
theorem za_copy (X : za_X C) {idx a a0 n0 n1 ci : Nat} {r : vw_C} {f g : Nat → Option Nat} {sp dp n : Int32} (d : decode C.M.cc pc = .ok (.invokestatic idx, 3)) (w1 : Jvm.Cond.methodLink C.M.y.cls idx arraycopyName ∈ lw_tbl) (w2 : Jvm.Cond.native arraycopyName ∈ lw_tbl) (w3 : Jvm.Cond.static arraycopyName ∈ lw_tbl) (w4 : Jvm.Cond.initialized "java/lang/System" ∈ lw_tbl)
    (ha0 : h a0 = some (.inl (.object "java/lang/Object", n0, .inr (.inr (.inr (.inr f)))))) (ha1 : h a = some (.inl (.object "java/lang/Object", n1, .inr (.inr (.inr (.inr g))))))
    (h1 : ¬ sp < 0) (h2 : ¬ dp < 0) (h3 : ¬ n < 0) (h4 : sp.toNatClampNeg + n.toNatClampNeg ≤ n0) (h5 : dp.toNatClampNeg + n.toNatClampNeg ≤ n1) (hr : vwCl[ci]? = some r) (hca : Jvm.Cond.castable r.1 "java/lang/Object" ∈ lw_tbl) (hel : ∀ i : Nat, i < n.toNatClampNeg → ∀ y : Nat, f (sp.toNatClampNeg + i) = some y → ∃ vs, h y = some (.inr (ci, vs)))
    (hfr : 1 ≤ C.M.fr) (hst : st.length ≤ 4) (k : za_w C (pc + 3) ls st (za_up h a (.inl (.object "java/lang/Object", n1, .inr (.inr (.inr (.inr (va_cpy f g sp.toNatClampNeg dp.toNatClampNeg n.toNatClampNeg))))))) cells slots) : za_w C pc ls (.int n :: .int dp :: .ref a :: .int sp :: .ref a0 :: st) h cells slots := fun H locs L hR hK hl hL => by
  obtain ⟨c0, b1, b2, hc0⟩ := za_arr X hR ha0 (fun q => by cases q)
  obtain ⟨c1, b3, b4, hc1⟩ := za_arr X hR ha1 (fun q => by cases q)
  obtain ⟨hb, hc9⟩ := hR a _ ha1
  obtain ⟨cA', h1', h2', h3'⟩ := za_cyn hc9 (fun q => by cases q)
  have hA : za_A C.G a := hb
  have hsum := za_sum st
  have nn : ∀ z : Int32, ¬ z < 0 → z.toInt = (z.toNatClampNeg : Int) := by
    intro z hz
    have hz0 : (0 : Int) ≤ z.toInt := by
      have := Int32.not_lt.mp hz
      simpa using Int32.le_iff_toInt_le.mp this
    show z.toInt = ((z.toInt.toNat : Nat) : Int)
    omega
  have hasg := vb_asgC (s := C.s) (va_Nw.of (A := C.args) rfl (za_cst X hca))
  intro T hT Xs
  obtain ⟨-, k0, hk0, cm0, hkk0⟩ := b1 n0 (fun j => va_rf (f j))
  obtain ⟨-, k1, hk1, cm1, hkk1⟩ := b3 n1 (fun j => va_rf (g j))
  obtain ⟨vm', X', step⟩ := Xs.arraycopy X.1 X.2.2.2.1 (za_wd X w1 rfl) (za_wd X w2 rfl) (za_wd X w3 rfl) (za_wd X w4 rfl) (src := a0) (dst := a) (cs := vp_cell c0 (n0, .inr (.inr (.inr (.inr f))))) (cd := vp_cell c1 (n1, .inr (.inr (.inr (.inr g))))) (srcPos := sp) (destPos := dp) (n := n) (by rw [hT]; exact hc0) (by rw [hT]; exact hc1)
    (fun _ h => by cases h) (fun _ h => by cases h) (fun h => by cases h) (fun h => by cases h) hk0 hk1 hkk0 hkk1 rfl h1 h2 h3
    (by rw [nn sp h1, nn n h3]; show ¬ _ > ((arrV c0 n0 (fun j => va_rf (f j))).slots.size : Int); rw [arrV_size]; omega)
    (by rw [nn dp h2, nn n h3]; show ¬ _ > ((arrV c1 n1 (fun j => va_rf (g j))).slots.size : Int); rw [arrV_size]; omega)
    (fun vm₁ hal i hi => by
      have e : (vp_cell c0 (n0, .inr (.inr (.inr (.inr f))))).slots.getD (sp.toNatClampNeg + i) .null = va_rf (f (sp.toNatClampNeg + i)) := by
        show (arrV c0 n0 (fun j => va_rf (f j))).slots.getD _ _ = _
        rw [Array.getD_eq_getD_getElem?, arrV_read _ _ (by omega)]
        rfl
      rw [e]
      cases hy : f (sp.toNatClampNeg + i) with
      | none => exact ⟨rfl, trivial⟩
      | some y =>
        obtain ⟨vs, hvs⟩ := hel i hi y hy
        obtain ⟨r', hr', -, cellV, g1, g2, g3⟩ := za_ob X hR hvs
        cases hr.symm.trans hr'
        obtain ⟨kA, comp, r1, r2, r3, -⟩ := b4
        cases hk1.symm.trans r1
        cases hkk1.symm.trans r2
        obtain ⟨kC, hkC, -⟩ := Vm.findClass_spec g3
        obtain ⟨kE, hkE, -⟩ := Vm.findClass_spec r3
        obtain ⟨kC', hkC', -⟩ := hal.2.2 _ _ hkC
        obtain ⟨kE', hkE', -⟩ := hal.2.2 _ _ hkE
        refine ⟨rfl, cellV, (show T.heap[y]? = some cellV by rw [hT]; exact g1), (fun q h => by rw [h] at g2; cases g2), ⟨kC', hkC'⟩, ?_, ?_⟩
        · exact ⟨kE', hkE'⟩
        · show vm₁.assignable _ _ = true
          rw [hal.assignable]
          exact hasg _ _ r3 g3)
    (g := F0 C.m pc L (.int n :: .int dp :: .ref a :: .int sp :: .ref a0 :: st)) rfl (by rw [X.2.2.1]; exact hL.size) (rest := st) rfl (by rw [X.2.1]; exact d) hfr (by
      show 2 * 0 + _ + _ ≤ 39 * C.M.fr
      have hw : nativeFrameWords "java/lang/System" "arraycopy" 5 ≤ 10 := (by decide +kernel)
      omega)
  have e1 : copied (vp_cell c0 (n0, .inr (.inr (.inr (.inr f))))) (vp_cell c1 (n1, .inr (.inr (.inr (.inr g))))) sp dp n = vp_cell c1 (n1, .inr (.inr (.inr (.inr (va_cpy f g sp.toNatClampNeg dp.toNatClampNeg n.toNatClampNeg))))) := by
    rw [vp_cell_q, vp_cell_q, vp_cell_q]
    exact va_copied (fun z => va_rf z) c0 c1 f g h4
  rw [e1] at X' step
  have hlt : a < H.size := (Array.getElem?_eq_some_iff.mp hc1).1
  have hheap : ((T.setVm vm').setCell a (vp_cell c1 (n1, .inr (.inr (.inr (.inr (va_cpy f g sp.toNatClampNeg dp.toNatClampNeg n.toNatClampNeg)))))) ).heap = H.setIfInBounds a (vp_cell c1 (n1, .inr (.inr (.inr (.inr (va_cpy f g sp.toNatClampNeg dp.toNatClampNeg n.toNatClampNeg)))))) := by rw [← hT]; rfl
  have oq : ∀ q : Nat, q ≠ a → (H.setIfInBounds a (vp_cell c1 (n1, .inr (.inr (.inr (.inr (va_cpy f g sp.toNatClampNeg dp.toNatClampNeg n.toNatClampNeg)))))))[q]? = H[q]? := fun q hq => by simp [Array.getElem?_setIfInBounds, Ne.symm hq]
  have ec : vp_cell cA' (n1, .inr (.inr (.inr (.inr g)))) = vp_cell c1 (n1, .inr (.inr (.inr (.inr g)))) := Option.some.inj (h3'.symm.trans hc1)
  have ec2 : cA' = c1 := congrArg Cell.cls ec
  obtain ⟨t, a1, b1⟩ := k (H.setIfInBounds a (vp_cell c1 (n1, .inr (.inr (.inr (.inr (va_cpy f g sp.toNatClampNeg dp.toNatClampNeg n.toNatClampNeg))))))) _ L (hR.set ha1 (Or.inl ⟨cA', h1', h2', (by rw [ec2]; show (H.setIfInBounds a _)[a]? = some _; simp [Array.getElem?_setIfInBounds, hlt])⟩) oq) (hK.set hA (by simp) oq) (fun z hz => by
      rcases List.mem_append.mp hz with q | q
      · exact hl z q
      · obtain ⟨w, -, hw⟩ := List.mem_map.mp q
        rw [← hw]
        exact hA) hL _ hheap X'
  exact ⟨t, step t a1, b1⟩
end ZE
end
section
/-! THE PLAIN LAYER (6): a fragment of a method's body as a proposition, and that it is sound -/
/-- a class's links: fields (class, place, type, final), methods (kind, arguments, receiver's class, frames, the method), 'new' (class, first values), throws (exception, constructor), texts, casts -/
abbrev za_LK : Type := (Nat → Option (Nat × Nat × FieldType × Nat)) × (Nat → Option (Nat × Nat × Nat × Nat × za_M)) × (Nat → Option (Nat × List Value)) × (Nat → Option (Nat × Nat)) × (Nat → Bool) × (Nat → Option Nat) × (Nat → Option Int32)
abbrev za_LK.fl (l : za_LK) := l.1
abbrev za_LK.mt (l : za_LK) := l.2.1
abbrev za_LK.nw (l : za_LK) := l.2.2.1
abbrev za_LK.th (l : za_LK) := l.2.2.2.1
abbrev za_LK.sx (l : za_LK) := l.2.2.2.2.1
abbrev za_LK.ck (l : za_LK) := l.2.2.2.2.2.1
abbrev za_LK.cn (l : za_LK) := l.2.2.2.2.2.2
def za_okm (own : String) (i : Nat) (q : Nat × Nat × Nat × Nat × za_M) : Prop := q.2.2.2.2.fr = q.2.2.2.1 ∧ match q.1 with
  | 0 => za_mv own i q.2.2.2.2 q.2.1 ∧ ∃ r, vwCl[q.2.2.1]? = some r ∧ r.1 = q.2.2.2.2.y.cls
  | 1 => za_ms own i q.2.2.2.2 q.2.1
  | 2 => za_mi own i q.2.2.2.2 q.2.1
  | 3 => za_mn own i q.2.2.2.2 q.2.1
  | 5 => Jvm.Cond.methodLink own i Lib.Math.max.name ∈ lw_tbl ∧ Jvm.Cond.static Lib.Math.max.name ∈ lw_tbl ∧ Jvm.Cond.initialized "java/lang/Math" ∈ lw_tbl ∧ Jvm.Cond.code Lib.Math.max.name Lib.Math.max.code 2 (some .int) ∈ lw_tbl
  | 6 => Jvm.Cond.methodLink own i Lib.Math.min.name ∈ lw_tbl ∧ Jvm.Cond.static Lib.Math.min.name ∈ lw_tbl ∧ Jvm.Cond.initialized "java/lang/Math" ∈ lw_tbl ∧ Jvm.Cond.code Lib.Math.min.name Lib.Math.min.code 2 (some .int) ∈ lw_tbl
  | _ => Jvm.Cond.methodLink own i objectInit ∈ lw_tbl ∧ Jvm.Cond.instanceMethod objectInit ∈ lw_tbl ∧ Jvm.Cond.code objectInit ⟨#[0xb1]⟩ 1 none ∈ lw_tbl
def za_lk (own : String) (l : za_LK) : Prop :=
  (∀ i q, l.fl i = some q → za_fl own i q.1 q.2.1 q.2.2.1 q.2.2.2) ∧ (∀ i q, l.mt i = some q → za_okm own i q) ∧ (∀ i q, l.nw i = some q → za_nl own i q.1 q.2) ∧ (∀ i q j, l.th i = some q → l.sx j = true → za_tl own i j q.2 q.1) ∧ (∀ i ci, l.ck i = some ci → ∃ r, vwCl[ci]? = some r ∧ Jvm.Cond.classLink own i r.1 ∈ lw_tbl) ∧ (∀ i v, l.cn i = some v → Jvm.Cond.constant own i v ∈ lw_tbl)
/-- what the rows of Objects need -/
def za_cok (ci : Nat) : Prop := ∃ r, vwCl[ci]? = some r ∧ Jvm.Cond.castable r.1 "java/lang/Object" ∈ lw_tbl
abbrev za_N : Type := Nat → za_L → List Value → za_H → Nat → Nat → Prop
def za_fn (k : Fin 4) : Nat := match k with
  | 0 => 0
  | 1 => 1
  | 2 => 2
  | 3 => 3
theorem za_fn_ok : ∀ k : Fin 4, za_fn k = (k : Nat) := by decide
def za_br (P A B : Prop) : Prop := (P → A) ∧ (¬ P → B)
def za_tg (pc : Nat) (off : Int) (k : Nat → Prop) : Prop := 0 ≤ (pc : Int) + off ∧ k ((pc : Int) + off).toNat
/-- exception k at pc -/
def za_ex (hh : List (Nat × Nat × Nat × Nat)) (hx : List Nat) (mc ms : Nat) (K : za_O → za_H → Prop) (nx : za_N) (pc : Nat) (ls : za_L) (k : Nat) (h : za_H) (c s : Nat) : Prop := match hh with
  | [] => c ≤ mc ∧ s ≤ ms ∧ K (.inr k) h
  | _ :: _ => match za_fd pc k hh hx with
    | some hp => ∀ q, nx hp ls [.ref q] h c s
    | none => False
/-- a call -/
def za_cl (G : za_G) (hh : List (Nat × Nat × Nat × Nat)) (hx : List Nat) (mc ms : Nat) (K : za_O → za_H → Prop) (nx : za_N) (M : za_M) (as : List Value) (pc : Nat) (ls : za_L) (rest : List Value) (h : za_H) (c s : Nat) : Prop :=
  ∃ mc' ms', c + mc' ≤ mc ∧ s + ms' ≤ ms ∧ za_P G M as h mc' ms' (fun o h' => match o with
    | .inl v => nx (pc + 3) ls (v.toList ++ rest) h' (c + mc') (s + ms')
    | .inr k => za_ex hh hx mc ms K nx pc ls k h' (c + mc') (s + ms'))
def za_isC (h : za_H) (b ci : Nat) : Prop := ∃ fs, h b = some (.inr (ci, fs))
def za_th (cc : ByteArray) (hh : List (Nat × Nat × Nat × Nat)) (fr : Nat) (lk : za_LK) (mc ms : Nat) (K : za_O → za_H → Prop) (k ic pc : Nat) (st : List Value) (h : za_H) (c s : Nat) : Prop :=
  hh = [] ∧ 6 ≤ fr ∧ st.length ≤ 4 ∧ c + 1 ≤ mc ∧ s + 6 ≤ ms ∧ decode cc (pc + 3) = .ok (.dup, 1) ∧ K (.inr k) h ∧ match decode cc (pc + 4) with
    | .ok (.ldc j, 2) => lk.sx j = true ∧ decode cc (pc + 6) = .ok (.invokespecial ic, 3) ∧ decode cc (pc + 9) = .ok (.athrow, 1)
    | .ok (.ldc_w j, 3) => lk.sx j = true ∧ decode cc (pc + 7) = .ok (.invokespecial ic, 3) ∧ decode cc (pc + 10) = .ok (.athrow, 1)
    | _ => False
def za_s (G : za_G) (cc : ByteArray) (ret : Option FieldType) (hh : List (Nat × Nat × Nat × Nat)) (hx : List Nat) (ini : Bool) (fr : Nat) (lk : za_LK) (mc ms : Nat) (K : za_O → za_H → Prop) (nx : za_N) (i : Instr) (len pc : Nat) (ls : za_L) (st : List Value) (h : za_H) (c s : Nat) : Prop := match i with
  | .iconst n => len = 1 ∧ nx (pc + 1) ls (.int (Int32.ofInt n) :: st) h c s
  | .bipush n => len = 2 ∧ nx (pc + 2) ls (.int (Int8.ofInt n).toInt32 :: st) h c s
  | .sipush n => len = 3 ∧ nx (pc + 3) ls (.int (Int16.ofInt n).toInt32 :: st) h c s
  | .lconst n => len = 1 ∧ nx (pc + 1) ls (.long (Int64.ofNat (n : Nat)) :: st) h c s
  | .aconst_null => len = 1 ∧ nx (pc + 1) ls (.null :: st) h c s
  | .iload_n k => len = 1 ∧ match ls[za_fn k]? with
    | some (some (.int x)) => nx (pc + 1) ls (.int x :: st) h c s
    | _ => False
  | .iload k => len = 2 ∧ match ls[k]? with
    | some (some (.int x)) => nx (pc + 2) ls (.int x :: st) h c s
    | _ => False
  | .aload_n k => len = 1 ∧ match ls[za_fn k]? with
    | some (some v) => za_rf v ∧ nx (pc + 1) ls (v :: st) h c s
    | _ => False
  | .aload k => len = 2 ∧ match ls[k]? with
    | some (some v) => za_rf v ∧ nx (pc + 2) ls (v :: st) h c s
    | _ => False
  | .istore_n k => len = 1 ∧ match st with
    | .int x :: st' => za_fn k < ls.length ∧ nx (pc + 1) (ls.set (za_fn k) (some (.int x))) st' h c s
    | _ => False
  | .istore k => len = 2 ∧ match st with
    | .int x :: st' => k < ls.length ∧ nx (pc + 2) (ls.set k (some (.int x))) st' h c s
    | _ => False
  | .astore_n k => len = 1 ∧ match st with
    | v :: st' => za_rf v ∧ za_fn k < ls.length ∧ nx (pc + 1) (ls.set (za_fn k) (some v)) st' h c s
    | _ => False
  | .astore k => len = 2 ∧ match st with
    | v :: st' => za_rf v ∧ k < ls.length ∧ nx (pc + 2) (ls.set k (some v)) st' h c s
    | _ => False
  | .iinc k n => len = 3 ∧ match ls[k]? with
    | some (some (.int x)) => nx (pc + 3) (ls.set k (some (.int (x + Int32.ofInt n)))) st h c s
    | _ => False
  | .iadd => len = 1 ∧ match st with
    | .int y :: .int x :: st' => nx (pc + 1) ls (.int (x + y) :: st') h c s
    | _ => False
  | .isub => len = 1 ∧ match st with
    | .int y :: .int x :: st' => nx (pc + 1) ls (.int (x - y) :: st') h c s
    | _ => False
  | .imul => len = 1 ∧ match st with
    | .int y :: .int x :: st' => nx (pc + 1) ls (.int (x * y) :: st') h c s
    | _ => False
  | .idiv => len = 1 ∧ match st with
    | .int y :: .int x :: st' => ¬ y = nI 0 ∧ nx (pc + 1) ls (.int (x / y) :: st') h c s
    | _ => False
  | .irem => len = 1 ∧ match st with
    | .int y :: .int x :: st' => ¬ y = nI 0 ∧ nx (pc + 1) ls (.int (x - x / y * y) :: st') h c s
    | _ => False
  | .lload_n k => len = 1 ∧ match ls[za_fn k]?, ls[za_fn k + 1]? with
    | some (some (.long x)), some none => nx (pc + 1) ls (.long x :: st) h c s
    | _, _ => False
  | .lload k => len = 2 ∧ match ls[k]?, ls[k + 1]? with
    | some (some (.long x)), some none => nx (pc + 2) ls (.long x :: st) h c s
    | _, _ => False
  | .lstore k => len = 2 ∧ match st with
    | .long x :: st' => k + 1 < ls.length ∧ nx (pc + 2) ((ls.set k (some (.long x))).set (k + 1) none) st' h c s
    | _ => False
  | .lshl => len = 1 ∧ match st with
    | .int y :: .long x :: st' => nx (pc + 1) ls (.long (x <<< (y.toInt64 &&& 63)) :: st') h c s
    | _ => False
  | .lshr => len = 1 ∧ match st with
    | .int y :: .long x :: st' => nx (pc + 1) ls (.long (x >>> (y.toInt64 &&& 63)) :: st') h c s
    | _ => False
  | .land => len = 1 ∧ match st with
    | .long y :: .long x :: st' => nx (pc + 1) ls (.long (x &&& y) :: st') h c s
    | _ => False
  | .lor => len = 1 ∧ match st with
    | .long y :: .long x :: st' => nx (pc + 1) ls (.long (x ||| y) :: st') h c s
    | _ => False
  | .ldc idx => len = 2 ∧ match lk.cn idx with
    | some v => nx (pc + 2) ls (.int v :: st) h c s
    | none => False
  | .iand => len = 1 ∧ match st with
    | .int y :: .int x :: st' => nx (pc + 1) ls (.int (x &&& y) :: st') h c s
    | _ => False
  | .ior => len = 1 ∧ match st with
    | .int y :: .int x :: st' => nx (pc + 1) ls (.int (x ||| y) :: st') h c s
    | _ => False
  | .ixor => len = 1 ∧ match st with
    | .int y :: .int x :: st' => nx (pc + 1) ls (.int (x ^^^ y) :: st') h c s
    | _ => False
  | .ishl => len = 1 ∧ match st with
    | .int y :: .int x :: st' => nx (pc + 1) ls (.int (x <<< (y &&& 31)) :: st') h c s
    | _ => False
  | .ishr => len = 1 ∧ match st with
    | .int y :: .int x :: st' => nx (pc + 1) ls (.int (x >>> (y &&& 31)) :: st') h c s
    | _ => False
  | .i2l => len = 1 ∧ match st with
    | .int x :: st' => nx (pc + 1) ls (.long x.toInt64 :: st') h c s
    | _ => False
  | .lcmp => len = 1 ∧ match st with
    | .long y :: .long x :: st' => nx (pc + 1) ls (.int (lg_cmp x y) :: st') h c s
    | _ => False
  | .dup => len = 1 ∧ match st with
    | v :: st' => v.category = 1 ∧ nx (pc + 1) ls (v :: v :: st') h c s
    | _ => False
  | .dup_x1 => len = 1 ∧ match st with
    | v :: w :: st' => v.category = 1 ∧ w.category = 1 ∧ nx (pc + 1) ls (v :: w :: v :: st') h c s
    | _ => False
  | .dup2 => len = 1 ∧ match st with
    | v :: w :: st' => v.category = 1 ∧ w.category = 1 ∧ nx (pc + 1) ls (v :: w :: v :: w :: st') h c s
    | _ => False
  | .pop => len = 1 ∧ match st with
    | v :: st' => v.category = 1 ∧ nx (pc + 1) ls st' h c s
    | _ => False
  | .goto off => len = 3 ∧ za_tg pc off (fun t => nx t ls st h c s)
  | .if_icmp op off => len = 3 ∧ match st with
    | .int y :: .int x :: st' => 0 ≤ (pc : Int) + off ∧ za_br (za_cd op x y) (nx ((pc : Int) + off).toNat ls st' h c s) (nx (pc + 3) ls st' h c s)
    | _ => False
  | .ifCond op off => len = 3 ∧ match st with
    | .int x :: st' => 0 ≤ (pc : Int) + off ∧ za_br (za_cd op x (nI 0)) (nx ((pc : Int) + off).toNat ls st' h c s) (nx (pc + 3) ls st' h c s)
    | _ => False
  | .ifnonnull off => len = 3 ∧ match st with
    | v :: st' => za_rf v ∧ 0 ≤ (pc : Int) + off ∧ za_br (¬ v = .null) (nx ((pc : Int) + off).toNat ls st' h c s) (nx (pc + 3) ls st' h c s)
    | _ => False
  | .if_acmp op off => len = 3 ∧ match st with
    | w :: v :: st' => za_rf v ∧ za_rf w ∧ 0 ≤ (pc : Int) + off ∧ za_br (match op with
      | .eq => v = w
      | .ne => ¬ v = w) (nx ((pc : Int) + off).toNat ls st' h c s) (nx (pc + 3) ls st' h c s)
    | _ => False
  | .tableswitch dflt lo hi offs => match st with
    | .int x :: st' => za_br (x.toInt < lo ∨ hi < x.toInt) (za_tg pc dflt (fun t => nx t ls st' h c s)) (match offs[(x.toInt - lo).toNat]? with
      | some off => za_tg pc off (fun t => nx t ls st' h c s)
      | none => False)
    | _ => False
  | .iaload => len = 1 ∧ match st with
    | .int j :: .ref a :: st' => match h a with
      | some (.inl (.int, n, .inl f)) => vp_in j n ∧ nx (pc + 1) ls (.int (f j.toNatClampNeg) :: st') h c s
      | _ => False
    | _ => False
  | .baload => len = 1 ∧ match st with
    | .int j :: .ref a :: st' => match h a with
      | some (.inl (.boolean, n, .inl f)) => vp_in j n ∧ nx (pc + 1) ls (.int (f j.toNatClampNeg) :: st') h c s
      | _ => False
    | _ => False
  | .laload => len = 1 ∧ match st with
    | .int j :: .ref a :: st' => match h a with
      | some (.inl (.long, n, .inr (.inl f))) => vp_in j n ∧ nx (pc + 1) ls (.long (f j.toNatClampNeg) :: st') h c s
      | _ => False
    | _ => False
  | .aaload => len = 1 ∧ match st with
    | .int j :: .ref a :: st' => match h a with
      | some (.inl (.object _, n, .inr (.inr (.inr (.inr f))))) => vp_in j n ∧ nx (pc + 1) ls (va_rf (f j.toNatClampNeg) :: st') h c s
      | _ => False
    | _ => False
  | .iastore => len = 1 ∧ match st with
    | .int x :: .int j :: .ref a :: st' => match h a with
      | some (.inl (.int, n, .inl f)) => vp_in j n ∧ nx (pc + 1) ls st' (za_up h a (.inl (.int, n, .inl (upd f j.toNatClampNeg x)))) c s
      | _ => False
    | _ => False
  | .bastore => len = 1 ∧ match st with
    | .int x :: .int j :: .ref a :: st' => match h a with
      | some (.inl (.boolean, n, .inl f)) => vp_in j n ∧ (x = nI 0 ∨ x = nI 1) ∧ nx (pc + 1) ls st' (za_up h a (.inl (.boolean, n, .inl (upd f j.toNatClampNeg x)))) c s
      | _ => False
    | _ => False
  | .lastore => len = 1 ∧ match st with
    | .long x :: .int j :: .ref a :: st' => match h a with
      | some (.inl (.long, n, .inr (.inl f))) => vp_in j n ∧ nx (pc + 1) ls st' (za_up h a (.inl (.long, n, .inr (.inl (vp_updL f j.toNatClampNeg x))))) c s
      | _ => False
    | _ => False
  | .aastore => len = 1 ∧ match st with
    | .null :: .int j :: .ref a :: st' => (match h a with
      | some (.inl (.object E, n, .inr (.inr (.inr (.inr f))))) => vp_in j n ∧ nx (pc + 1) ls st' (za_up h a (.inl (.object E, n, .inr (.inr (.inr (.inr (va_up f j.toNatClampNeg none))))))) c s
      | _ => False)
    | .ref v :: .int j :: .ref a :: st' => (match h a with
      | some (.inl (.object "java/lang/Object", n, .inr (.inr (.inr (.inr f))))) => vp_in j n ∧ (∃ ci, za_isC h v ci ∧ za_cok ci) ∧ nx (pc + 1) ls st' (za_up h a (.inl (.object "java/lang/Object", n, .inr (.inr (.inr (.inr (va_up f j.toNatClampNeg (some v)))))))) c s
      | _ => False)
    | _ => False
  | .arraylength => len = 1 ∧ match st with
    | .ref a :: st' => match h a with
      | some (.inl (_, n, _)) => nx (pc + 1) ls (.int (nI n) :: st') h c s
      | _ => a = G.t ∧ nx (pc + 1) ls (.int (nI 0) :: st') h c s
    | _ => False
  | .getfield idx => len = 3 ∧ match st with
    | .ref a :: st' => match lk.fl idx with
      | some (ci, k, _, _) => (match h a with
        | some (.inr (ci', fs)) => ci' = ci ∧ (match fs[k]? with
          | some v => nx (pc + 3) ls (v :: st') h c s
          | none => False)
        | _ => False)
      | none => False
    | _ => False
  | .putfield idx => len = 3 ∧ match st with
    | v :: .ref a :: st' => match lk.fl idx with
      | some (ci, k, ty, fin) => (match h a with
        | some (.inr (ci', fs)) => ci' = ci ∧ k < fs.length ∧ (fin = 0 ∨ (fin = 1 ∧ ini = true)) ∧ za_fit ty v ∧ nx (pc + 3) ls st' (za_up h a (.inr (ci, fs.set k v))) c s
        | _ => False)
      | none => False
    | _ => False
  | .new idx => len = 3 ∧ match lk.nw idx with
    | some (ci, fs) => c + 1 ≤ mc ∧ s + fs.length ≤ ms ∧ ∀ q, za_nn G h q → nx (pc + 3) ls (.ref q :: st) (za_up h q (.inr (ci, fs))) (c + 1) (s + fs.length)
    | none => match lk.th idx with
      | some (k, ic) => za_th cc hh fr lk mc ms K k ic pc st h c s
      | none => False
  | .newarray t => len = 2 ∧ match st with
    | .int n :: st' => t = .int ∧ ¬ n < 0 ∧ n.toNatClampNeg ≤ 1000000 ∧ c + 1 ≤ mc ∧ s + n.toNatClampNeg ≤ ms ∧ ∀ q, za_nn G h q → nx (pc + 2) ls (.ref q :: st') (za_up h q (za_a0 t n.toNatClampNeg)) (c + 1) (s + n.toNatClampNeg)
    | _ => False
  | .checkcast idx => len = 3 ∧ match st with
    | .ref a :: st' => match lk.ck idx with
      | some ci => za_isC h a ci ∧ nx (pc + 3) ls (.ref a :: st') h c s
      | none => False
    | _ => False
  | .invokevirtual idx => len = 3 ∧ match lk.mt idx with
    | some (0, n, ci, f, M) => f + 1 ≤ fr ∧ (match st.drop n with
      | .ref b :: rest => za_isC h b ci ∧ rest.length ≤ 4 ∧ za_cl G hh hx mc ms K nx M (.ref b :: (st.take n).reverse) pc ls rest h c s
      | _ => False)
    | _ => False
  | .invokestatic idx => len = 3 ∧ match lk.mt idx with
    | some (1, n, _, f, M) => f + 1 ≤ fr ∧ n ≤ st.length ∧ (st.drop n).length ≤ 4 ∧ za_cl G hh hx mc ms K nx M (st.take n).reverse pc ls (st.drop n) h c s
    | some (3, n, _, f, M) => f + 1 ≤ fr ∧ n ≤ st.length ∧ (st.drop n).length ≤ 4 ∧ za_cl G hh hx mc ms K nx M (st.take n).reverse pc ls (st.drop n) h c s
    | some (5, _, _, _, _) => 1 ≤ fr ∧ c ≤ mc ∧ s ≤ ms ∧ (match st with
      | .int b :: .int a :: rest => rest.length ≤ 4 ∧ nx (pc + 3) ls (.int (za_max a b) :: rest) h c s
      | _ => False)
    | some (6, _, _, _, _) => 1 ≤ fr ∧ c ≤ mc ∧ s ≤ ms ∧ (match st with
      | .int b :: .int a :: rest => rest.length ≤ 4 ∧ nx (pc + 3) ls (.int (za_min a b) :: rest) h c s
      | _ => False)
    | _ => False
  | .invokespecial idx => len = 3 ∧ match lk.mt idx with
    | some (2, n, _, f, M) => f + 1 ≤ fr ∧ (match st.drop n with
      | .ref b :: rest => rest.length ≤ 4 ∧ za_cl G hh hx mc ms K nx M (.ref b :: (st.take n).reverse) pc ls rest h c s
      | _ => False)
    | some (4, _, _, _, _) => 1 ≤ fr ∧ (match st with
      | .ref _ :: rest => rest.length ≤ 4 ∧ nx (pc + 3) ls rest h c s
      | _ => False)
    | _ => False
  | .ireturn => len = 1 ∧ match st, ret with
    | [.int v], some ty => narrow ty (.int v) = .int v ∧ c ≤ mc ∧ s ≤ ms ∧ K (.inl (some (.int v))) h
    | _, _ => False
  | .return_ => len = 1 ∧ match st with
    | [] => ret = none ∧ c ≤ mc ∧ s ≤ ms ∧ K (.inl none) h
    | _ => False
  | .areturn => len = 1 ∧ match st, ret with
    | [v], some (.object _) => za_rf v ∧ c ≤ mc ∧ s ≤ ms ∧ K (.inl (some v)) h
    | [v], some (.array _) => za_rf v ∧ c ≤ mc ∧ s ≤ ms ∧ K (.inl (some v)) h
    | _, _ => False
  | _ => False
def za_f (G : za_G) (cc : ByteArray) (ret : Option FieldType) (hh : List (Nat × Nat × Nat × Nat)) (hx : List Nat) (ini : Bool) (fr : Nat) (lk : za_LK) (mc ms : Nat) (K : za_O → za_H → Prop) (cuts : Nat → Bool) (w : za_N) : Nat → za_N
  | 0 => w
  | n + 1 => fun pc ls st h c s => match decode cc pc with
    | .ok (i, len) => za_s G cc ret hh hx ini fr lk mc ms K (fun pc' ls' st' h' c' s' => if cuts pc' = true then w pc' ls' st' h' c' s' else za_f G cc ret hh hx ini fr lk mc ms K cuts w n pc' ls' st' h' c' s') i len pc ls st h c s
    | _ => False
def za_go (G : za_G) (cc : ByteArray) (ret : Option FieldType) (hh : List (Nat × Nat × Nat × Nat)) (hx : List Nat) (ini : Bool) (fr : Nat) (lk : za_LK) (mc ms : Nat) (K : za_O → za_H → Prop) (cuts : Nat → Bool) (w : za_N) (n : Nat) : za_N := fun pc' ls' st' h' c' s' => if cuts pc' = true then w pc' ls' st' h' c' s' else za_f G cc ret hh hx ini fr lk mc ms K cuts w n pc' ls' st' h' c' s'
theorem za_f_eq (G : za_G) (cc : ByteArray) (ret : Option FieldType) (hh : List (Nat × Nat × Nat × Nat)) (hx : List Nat) (ini : Bool) (fr : Nat) (lk : za_LK) (mc ms : Nat) (K : za_O → za_H → Prop) (cuts : Nat → Bool) (w : za_N) (n pc : Nat) (ls : za_L) (st : List Value) (h : za_H) (c s : Nat) :
    za_f G cc ret hh hx ini fr lk mc ms K cuts w (n + 1) pc ls st h c s = match decode cc pc with
    | .ok (i, len) => za_s G cc ret hh hx ini fr lk mc ms K (za_go G cc ret hh hx ini fr lk mc ms K cuts w n) i len pc ls st h c s
    | _ => False := rfl
theorem za_go_eq (G : za_G) (cc : ByteArray) (ret : Option FieldType) (hh : List (Nat × Nat × Nat × Nat)) (hx : List Nat) (ini : Bool) (fr : Nat) (lk : za_LK) (mc ms : Nat) (K : za_O → za_H → Prop) (cuts : Nat → Bool) (w : za_N) (n pc : Nat) (ls : za_L) (st : List Value) (h : za_H) (c s : Nat) :
    za_go G cc ret hh hx ini fr lk mc ms K cuts w n pc ls st h c s = if cuts pc = true then w pc ls st h c s else za_f G cc ret hh hx ini fr lk mc ms K cuts w n pc ls st h c s := rfl
end
section
/-! THE PLAIN LAYER (7): a fragment is sound -/
theorem za_aw : ∀ t : ArrayType, t = .int → Jvm.Cond.arrayClass (newarray.typeOf t) ∈ lw_tbl := by
  intro t ht
  subst ht
  decide +kernel
section ZG
variable {C : za_C}
theorem za_tgE {pc : Nat} {off : Int} {k : Nat → Prop} (h : za_tg pc off k) : ∃ t : Nat, (pc : Int) + off = (t : Int) ∧ k t := ⟨((pc : Int) + off).toNat, (Int.toNat_of_nonneg h.1).symm, h.2⟩
theorem za_ex_ok (X : za_X C) {hx : List Nat} (hht : za_ht C.M.y.cls C.M.hh hx) {nx : za_N} (hnx : ∀ pc ls st h c s, nx pc ls st h c s → za_w C pc ls st h c s) {pc : Nat} {ls : za_L} {k : Nat} {h : za_H} {c s : Nat} (he : za_ex C.M.hh hx C.mc C.ms C.K nx pc ls k h c s) : za_xw C pc ls k h c s := by
  unfold za_ex at he
  split at he
  · rename_i hh
    exact za_xout X hh he.1 he.2.1 he.2.2
  · rename_i hh
    split at he
    · rename_i hp hf
      exact za_xin X hht hf (fun q => hnx _ _ _ _ _ _ (he q))
    · exact he.elim
theorem za_s_ok (X : za_X C) {lk : za_LK} {hx : List Nat} {ini : Bool} (hlk : za_lk C.M.y.cls lk) (hht : za_ht C.M.y.cls C.M.hh hx) (hini : ini = true → C.M.y.name = "<init>") {nx : za_N} (hnx : ∀ pc ls st h c s, nx pc ls st h c s → za_w C pc ls st h c s)
    {i : Instr} {len pc : Nat} {ls : za_L} {st : List Value} {h : za_H} {c s : Nat} (d : decode C.M.cc pc = .ok (i, len)) (hs : za_s C.G C.M.cc C.M.ret C.M.hh hx ini C.M.fr lk C.mc C.ms C.K nx i len pc ls st h c s) : za_w C pc ls st h c s := by
  have hex := fun (pc : Nat) (ls : za_L) (k : Nat) (h : za_H) (c s : Nat) (he : za_ex C.M.hh hx C.mc C.ms C.K nx pc ls k h c s) => za_ex_ok X hht hnx he
  cases i with
  | iconst n => obtain ⟨rfl, hs⟩ := hs; exact za_iconst X d (hnx _ _ _ _ _ _ hs)
  | bipush n => obtain ⟨rfl, hs⟩ := hs; exact za_bipush X d (hnx _ _ _ _ _ _ hs)
  | sipush n => obtain ⟨rfl, hs⟩ := hs; exact za_sipush X d (hnx _ _ _ _ _ _ hs)
  | lconst n => obtain ⟨rfl, hs⟩ := hs; exact za_lconst X d (hnx _ _ _ _ _ _ hs)
  | aconst_null => obtain ⟨rfl, hs⟩ := hs; exact za_null X d (hnx _ _ _ _ _ _ hs)
  | iload_n k =>
    obtain ⟨rfl, hs⟩ := hs
    split at hs
    · rename_i x hq
      rw [za_fn_ok] at hq
      exact za_iload_n X d hq (hnx _ _ _ _ _ _ hs)
    · exact hs.elim
  | iload k =>
    obtain ⟨rfl, hs⟩ := hs
    split at hs
    · rename_i x hq
      exact za_iload X d hq (hnx _ _ _ _ _ _ hs)
    · exact hs.elim
  | aload_n k =>
    obtain ⟨rfl, hs⟩ := hs
    split at hs
    · rename_i x hq
      rw [za_fn_ok] at hq
      exact za_aload_n X d hq hs.1 (hnx _ _ _ _ _ _ hs.2)
    · exact hs.elim
  | aload k =>
    obtain ⟨rfl, hs⟩ := hs
    split at hs
    · rename_i x hq
      exact za_aload X d hq hs.1 (hnx _ _ _ _ _ _ hs.2)
    · exact hs.elim
  | istore_n k =>
    obtain ⟨rfl, hs⟩ := hs
    split at hs
    · rw [za_fn_ok] at hs
      exact za_istore_n X d hs.1 (hnx _ _ _ _ _ _ hs.2)
    · exact hs.elim
  | istore k =>
    obtain ⟨rfl, hs⟩ := hs
    split at hs
    · exact za_istore X d hs.1 (hnx _ _ _ _ _ _ hs.2)
    · exact hs.elim
  | astore_n k =>
    obtain ⟨rfl, hs⟩ := hs
    split at hs
    · rw [za_fn_ok] at hs
      exact za_astore_n X d hs.2.1 hs.1 (hnx _ _ _ _ _ _ hs.2.2)
    · exact hs.elim
  | astore k =>
    obtain ⟨rfl, hs⟩ := hs
    split at hs
    · exact za_astore X d hs.2.1 hs.1 (hnx _ _ _ _ _ _ hs.2.2)
    · exact hs.elim
  | iinc k n =>
    obtain ⟨rfl, hs⟩ := hs
    split at hs
    · rename_i x hq
      exact za_iinc X d hq (hnx _ _ _ _ _ _ hs)
    · exact hs.elim
  | iadd =>
    obtain ⟨rfl, hs⟩ := hs
    split at hs
    · exact za_iadd X d (hnx _ _ _ _ _ _ hs)
    · exact hs.elim
  | isub =>
    obtain ⟨rfl, hs⟩ := hs
    split at hs
    · exact za_isub X d (hnx _ _ _ _ _ _ hs)
    · exact hs.elim
  | imul =>
    obtain ⟨rfl, hs⟩ := hs
    split at hs
    · exact za_imul X d (hnx _ _ _ _ _ _ hs)
    · exact hs.elim
  | idiv =>
    obtain ⟨rfl, hs⟩ := hs
    split at hs
    · exact za_idiv X d (by rw [← nI_0]; exact hs.1) (hnx _ _ _ _ _ _ hs.2)
    · exact hs.elim
  | irem =>
    obtain ⟨rfl, hs⟩ := hs
    split at hs
    · exact za_irem X d (by rw [← nI_0]; exact hs.1) (hnx _ _ _ _ _ _ hs.2)
    · exact hs.elim
  | lload_n k =>
    obtain ⟨rfl, hs⟩ := hs
    split at hs
    · rename_i hq1 hq2
      rw [za_fn_ok] at hq1 hq2
      exact za_lload_n X d hq1 hq2 (hnx _ _ _ _ _ _ hs)
    · exact hs.elim
  | lload k =>
    obtain ⟨rfl, hs⟩ := hs
    split at hs
    · rename_i hq1 hq2
      exact za_lload X d hq1 hq2 (hnx _ _ _ _ _ _ hs)
    · exact hs.elim
  | lstore k =>
    obtain ⟨rfl, hs⟩ := hs
    split at hs
    · exact za_lstore X d hs.1 (hnx _ _ _ _ _ _ hs.2)
    · exact hs.elim
  | lshl =>
    obtain ⟨rfl, hs⟩ := hs
    split at hs
    · exact za_lshl X d (hnx _ _ _ _ _ _ hs)
    · exact hs.elim
  | lshr =>
    obtain ⟨rfl, hs⟩ := hs
    split at hs
    · exact za_lshr X d (hnx _ _ _ _ _ _ hs)
    · exact hs.elim
  | land =>
    obtain ⟨rfl, hs⟩ := hs
    split at hs
    · exact za_land X d (hnx _ _ _ _ _ _ hs)
    · exact hs.elim
  | lor =>
    obtain ⟨rfl, hs⟩ := hs
    split at hs
    · exact za_lor X d (hnx _ _ _ _ _ _ hs)
    · exact hs.elim
  | ldc idx =>
    obtain ⟨rfl, hs⟩ := hs
    split at hs
    · rename_i v hq
      exact za_ldc X d (hlk.2.2.2.2.2 _ _ hq) (hnx _ _ _ _ _ _ hs)
    · exact hs.elim
  | iand =>
    obtain ⟨rfl, hs⟩ := hs
    split at hs
    · exact za_iand X d (hnx _ _ _ _ _ _ hs)
    · exact hs.elim
  | ior =>
    obtain ⟨rfl, hs⟩ := hs
    split at hs
    · exact za_ior X d (hnx _ _ _ _ _ _ hs)
    · exact hs.elim
  | ixor =>
    obtain ⟨rfl, hs⟩ := hs
    split at hs
    · exact za_ixor X d (hnx _ _ _ _ _ _ hs)
    · exact hs.elim
  | ishl =>
    obtain ⟨rfl, hs⟩ := hs
    split at hs
    · exact za_ishl X d (hnx _ _ _ _ _ _ hs)
    · exact hs.elim
  | ishr =>
    obtain ⟨rfl, hs⟩ := hs
    split at hs
    · exact za_ishr X d (hnx _ _ _ _ _ _ hs)
    · exact hs.elim
  | i2l =>
    obtain ⟨rfl, hs⟩ := hs
    split at hs
    · exact za_i2l X d (hnx _ _ _ _ _ _ hs)
    · exact hs.elim
  | lcmp =>
    obtain ⟨rfl, hs⟩ := hs
    split at hs
    · exact za_lcmp X d (hnx _ _ _ _ _ _ hs)
    · exact hs.elim
  | dup =>
    obtain ⟨rfl, hs⟩ := hs
    split at hs
    · exact za_dup X d hs.1 (hnx _ _ _ _ _ _ hs.2)
    · exact hs.elim
  | dup_x1 =>
    obtain ⟨rfl, hs⟩ := hs
    split at hs
    · exact za_dup_x1 X d hs.1 hs.2.1 (hnx _ _ _ _ _ _ hs.2.2)
    · exact hs.elim
  | dup2 =>
    obtain ⟨rfl, hs⟩ := hs
    split at hs
    · exact za_dup2 X d hs.1 hs.2.1 (hnx _ _ _ _ _ _ hs.2.2)
    · exact hs.elim
  | pop =>
    obtain ⟨rfl, hs⟩ := hs
    split at hs
    · exact za_pop X d hs.1 (hnx _ _ _ _ _ _ hs.2)
    · exact hs.elim
  | goto off =>
    obtain ⟨rfl, hs⟩ := hs
    obtain ⟨t, ht, hs⟩ := za_tgE hs
    exact za_goto X d ht (hnx _ _ _ _ _ _ hs)
  | if_icmp op off =>
    obtain ⟨rfl, hs⟩ := hs
    split at hs
    · exact za_icmp X d (Int.toNat_of_nonneg hs.1).symm (fun q => hnx _ _ _ _ _ _ (hs.2.1 q)) (fun q => hnx _ _ _ _ _ _ (hs.2.2 q))
    · exact hs.elim
  | ifCond op off =>
    obtain ⟨rfl, hs⟩ := hs
    split at hs
    · exact za_ifc X d (Int.toNat_of_nonneg hs.1).symm (fun q => hnx _ _ _ _ _ _ (hs.2.1 (by rw [nI_0]; exact q))) (fun q => hnx _ _ _ _ _ _ (hs.2.2 (by rw [nI_0]; exact q)))
    · exact hs.elim
  | ifnonnull off =>
    obtain ⟨rfl, hs⟩ := hs
    split at hs
    · exact za_nonnull X d (Int.toNat_of_nonneg hs.2.1).symm hs.1 (fun q => hnx _ _ _ _ _ _ (hs.2.2.1 q)) (fun q => hnx _ _ _ _ _ _ (hs.2.2.2 (fun z => z q)))
    · exact hs.elim
  | if_acmp op off =>
    obtain ⟨rfl, hs⟩ := hs
    split at hs
    · obtain ⟨h1, h2, h3, h4, h5⟩ := hs
      cases op with
      | eq => exact za_acmp_eq X d (Int.toNat_of_nonneg h3).symm h1 h2 (fun q => hnx _ _ _ _ _ _ (h4 q)) (fun q => hnx _ _ _ _ _ _ (h5 q))
      | ne => exact za_acmp_ne X d (Int.toNat_of_nonneg h3).symm h1 h2 (fun q => hnx _ _ _ _ _ _ (h4 q)) (fun q => hnx _ _ _ _ _ _ (h5 (fun z => z q)))
    · exact hs.elim
  | tableswitch dflt lo hi offs =>
    simp only [za_s] at hs
    split at hs
    · rename_i x st'
      by_cases hp : x.toInt < lo ∨ hi < x.toInt
      · obtain ⟨t, ht, hs⟩ := za_tgE (hs.1 hp)
        exact za_tableOut X d hp ht (hnx _ _ _ _ _ _ hs)
      · have h2 := hs.2 hp
        split at h2
        · rename_i off ho
          obtain ⟨t, ht, h3⟩ := za_tgE h2
          exact za_tableIn X d (fun q => hp (Or.inl q)) (fun q => hp (Or.inr q)) ho ht (hnx _ _ _ _ _ _ h3)
        · exact h2.elim
    · exact hs.elim
  | iaload =>
    obtain ⟨rfl, hs⟩ := hs
    split at hs
    · split at hs
      · rename_i ha
        exact za_iald X d ha hs.1 (hnx _ _ _ _ _ _ hs.2)
      · exact hs.elim
    · exact hs.elim
  | baload =>
    obtain ⟨rfl, hs⟩ := hs
    split at hs
    · split at hs
      · rename_i ha
        exact za_zald X d ha hs.1 (hnx _ _ _ _ _ _ hs.2)
      · exact hs.elim
    · exact hs.elim
  | laload =>
    obtain ⟨rfl, hs⟩ := hs
    split at hs
    · split at hs
      · rename_i ha
        exact za_lald X d ha hs.1 (hnx _ _ _ _ _ _ hs.2)
      · exact hs.elim
    · exact hs.elim
  | aaload =>
    obtain ⟨rfl, hs⟩ := hs
    split at hs
    · split at hs
      · rename_i ha
        exact za_aald X d ha hs.1 (hnx _ _ _ _ _ _ hs.2)
      · exact hs.elim
    · exact hs.elim
  | iastore =>
    obtain ⟨rfl, hs⟩ := hs
    split at hs
    · split at hs
      · rename_i ha
        exact za_iast X d ha hs.1 (hnx _ _ _ _ _ _ hs.2)
      · exact hs.elim
    · exact hs.elim
  | bastore =>
    obtain ⟨rfl, hs⟩ := hs
    split at hs
    · split at hs
      · rename_i ha
        exact za_zast X d ha hs.1 hs.2.1 (hnx _ _ _ _ _ _ hs.2.2)
      · exact hs.elim
    · exact hs.elim
  | lastore =>
    obtain ⟨rfl, hs⟩ := hs
    split at hs
    · split at hs
      · rename_i ha
        exact za_last X d ha hs.1 (hnx _ _ _ _ _ _ hs.2)
      · exact hs.elim
    · exact hs.elim
  | aastore =>
    obtain ⟨rfl, hs⟩ := hs
    split at hs
    · split at hs
      · rename_i ha
        exact za_aastN X d ha hs.1 (hnx _ _ _ _ _ _ hs.2)
      · exact hs.elim
    · split at hs
      · rename_i ha
        obtain ⟨h1, ⟨ci, ⟨fs, h2⟩, r, h3, h4⟩, h5⟩ := hs
        exact za_aast X d ha h2 h3 h4 h1 (hnx _ _ _ _ _ _ h5)
      · exact hs.elim
    · exact hs.elim
  | arraylength =>
    obtain ⟨rfl, hs⟩ := hs
    split at hs
    · split at hs
      · rename_i ha
        exact za_alen X d ha (hnx _ _ _ _ _ _ hs)
      · obtain ⟨rfl, hs⟩ := hs
        exact za_alenT X d (by rw [← nI_0]; exact hnx _ _ _ _ _ _ hs)
    · exact hs.elim
  | getfield idx =>
    obtain ⟨rfl, hs⟩ := hs
    split at hs
    · split at hs
      · rename_i hf
        split at hs
        · rename_i ha
          obtain ⟨rfl, hs⟩ := hs
          split at hs
          · rename_i hv
            exact za_get X d (hlk.1 _ _ hf) ha hv (hnx _ _ _ _ _ _ hs)
          · exact hs.elim
        · exact hs.elim
      · exact hs.elim
    · exact hs.elim
  | putfield idx =>
    obtain ⟨rfl, hs⟩ := hs
    split at hs
    · split at hs
      · rename_i hf
        split at hs
        · rename_i ha
          obtain ⟨rfl, h1, h2, h3, hs⟩ := hs
          exact za_put X d (hlk.1 _ _ hf) (h2.elim Or.inl (fun q => Or.inr ⟨q.1, hini q.2⟩)) ha h1 h3 (hnx _ _ _ _ _ _ hs)
        · exact hs.elim
      · exact hs.elim
    · exact hs.elim
  | new idx =>
    obtain ⟨rfl, hs⟩ := hs
    split at hs
    · rename_i hn
      exact za_new X d (hlk.2.2.1 _ _ hn) hs.1 hs.2.1 (fun q hq => hnx _ _ _ _ _ _ (hs.2.2 q hq))
    · split at hs
      · rename_i ht
        obtain ⟨h1, h2, h3, h4, h5, h6, h7, h8⟩ := hs
        split at h8
        · rename_i hd
          exact za_throw X h1 (hlk.2.2.2.1 _ _ _ ht h8.1) d h6 hd h8.2.1 h8.2.2 h2 h3 h4 h5 h7
        · rename_i hd
          exact za_throwW X h1 (hlk.2.2.2.1 _ _ _ ht h8.1) d h6 hd h8.2.1 h8.2.2 h2 h3 h4 h5 h7
        · exact h8.elim
      · exact hs.elim
  | newarray t =>
    obtain ⟨rfl, hs⟩ := hs
    split at hs
    · obtain ⟨h1, h2, h3, h4, h5, h6⟩ := hs
      exact za_newa X d h1 (za_aw t h1) h2 h3 h4 h5 (fun q hq => hnx _ _ _ _ _ _ (h6 q hq))
    · exact hs.elim
  | checkcast idx =>
    obtain ⟨rfl, hs⟩ := hs
    split at hs
    · split at hs
      · rename_i hc
        obtain ⟨⟨fs, h1⟩, hs⟩ := hs
        obtain ⟨r, h2, h3⟩ := hlk.2.2.2.2.1 _ _ hc
        exact za_cast X d h1 h2 h3 (hnx _ _ _ _ _ _ hs)
      · exact hs.elim
    · exact hs.elim
  | invokevirtual idx =>
    obtain ⟨rfl, hs⟩ := hs
    split at hs
    · rename_i n ci f M hm
      obtain ⟨hfr, hs⟩ := hs
      split at hs
      · rename_i b rest hdr
        obtain ⟨⟨fs, hb⟩, hr, mc', ms', hc, hs', hP⟩ := hs
        obtain ⟨hMf, hmv, r, hr1, hr2⟩ := hlk.2.1 _ _ hm
        have hlen : n ≤ st.length := by
          by_cases hle : n ≤ st.length
          · exact hle
          · rw [List.drop_eq_nil_of_le (by omega)] at hdr; cases hdr
        have hst : st = ((st.take n).reverse).reverse ++ .ref b :: rest := by rw [List.reverse_reverse, ← hdr, List.take_append_drop]
        rw [hst]
        have hMf' : M.fr = f := hMf
        exact za_invV X d hmv (by simp; omega) hb hr1 hr2 (by rw [hMf']; exact hfr) hr hc hs' hP (fun v h' q => hnx _ _ _ _ _ _ q) (fun k h' q => hex _ _ _ _ _ _ q)
      · exact hs.elim
    · exact hs.elim
  | invokestatic idx =>
    obtain ⟨rfl, hs⟩ := hs
    split at hs
    · rename_i n ci f M hm
      obtain ⟨hfr, hlen, hr, mc', ms', hc, hs', hP⟩ := hs
      obtain ⟨hMf, hmv⟩ := hlk.2.1 _ _ hm
      have hst : st = ((st.take n).reverse).reverse ++ st.drop n := by rw [List.reverse_reverse, List.take_append_drop]
      rw [hst]
      have hMf' : M.fr = f := hMf
      exact za_invS X d hmv (by simp; omega) (by rw [hMf']; exact hfr) hr hc hs' hP (fun v h' q => hnx _ _ _ _ _ _ q) (fun k h' q => hex _ _ _ _ _ _ q)
    · rename_i n ci f M hm
      obtain ⟨hfr, hlen, hr, mc', ms', hc, hs', hP⟩ := hs
      obtain ⟨hMf, hmv⟩ := hlk.2.1 _ _ hm
      have hst : st = ((st.take n).reverse).reverse ++ st.drop n := by rw [List.reverse_reverse, List.take_append_drop]
      rw [hst]
      have hMf' : M.fr = f := hMf
      exact za_invN X d hmv (by simp; omega) (by rw [hMf']; exact hfr) hr hc hs' hP (fun v h' q => hnx _ _ _ _ _ _ q) (fun k h' q => hex _ _ _ _ _ _ q)
    · rename_i hm
      obtain ⟨-, w1, w2, w3, w4⟩ := hlk.2.1 _ _ hm
      obtain ⟨hfr, hc, hs', hs⟩ := hs
      split at hs
      · exact za_mmax X d w1 w2 w3 w4 hfr hc hs' hs.1 (hnx _ _ _ _ _ _ hs.2)
      · exact hs.elim
    · rename_i hm
      obtain ⟨-, w1, w2, w3, w4⟩ := hlk.2.1 _ _ hm
      obtain ⟨hfr, hc, hs', hs⟩ := hs
      split at hs
      · exact za_mmin X d w1 w2 w3 w4 hfr hc hs' hs.1 (hnx _ _ _ _ _ _ hs.2)
      · exact hs.elim
    · exact hs.elim
  | invokespecial idx =>
    obtain ⟨rfl, hs⟩ := hs
    split at hs
    · rename_i n ci f M hm
      obtain ⟨hfr, hs⟩ := hs
      split at hs
      · rename_i b rest hdr
        obtain ⟨hr, mc', ms', hc, hs', hP⟩ := hs
        obtain ⟨hMf, hmv⟩ := hlk.2.1 _ _ hm
        have hlen : n ≤ st.length := by
          by_cases hle : n ≤ st.length
          · exact hle
          · rw [List.drop_eq_nil_of_le (by omega)] at hdr; cases hdr
        have hst : st = ((st.take n).reverse).reverse ++ .ref b :: rest := by rw [List.reverse_reverse, ← hdr, List.take_append_drop]
        rw [hst]
        have hMf' : M.fr = f := hMf
        exact za_invI X d hmv (by simp; omega) (by rw [hMf']; exact hfr) hr hc hs' hP (fun v h' q => hnx _ _ _ _ _ _ q) (fun k h' q => hex _ _ _ _ _ _ q)
      · exact hs.elim
    · rename_i hm
      obtain ⟨hfr, hs⟩ := hs
      split at hs
      · obtain ⟨hr, hs⟩ := hs
        obtain ⟨-, h1, h2, h3⟩ := hlk.2.1 _ _ hm
        exact za_objInit X d h1 h2 h3 hfr hr (hnx _ _ _ _ _ _ hs)
      · exact hs.elim
    · exact hs.elim
  | ireturn =>
    obtain ⟨rfl, hs⟩ := hs
    split at hs
    · rename_i hr
      exact za_ireturn X d hr hs.1 hs.2.1 hs.2.2.1 hs.2.2.2
    · exact hs.elim
  | return_ =>
    obtain ⟨rfl, hs⟩ := hs
    split at hs
    · exact za_return X d hs.1 hs.2.1 hs.2.2.1 hs.2.2.2
    · exact hs.elim
  | areturn =>
    obtain ⟨rfl, hs⟩ := hs
    split at hs
    · rename_i hr
      exact za_areturn X d hr (Or.inl ⟨_, rfl⟩) hs.1 hs.2.1 hs.2.2.1 hs.2.2.2
    · rename_i hr
      exact za_areturn X d hr (Or.inr ⟨_, rfl⟩) hs.1 hs.2.1 hs.2.2.1 hs.2.2.2
    · exact hs.elim
  | _ => exact hs.elim
/-- a fragment from pc on is the body from pc on -/
theorem za_f_ok (X : za_X C) {lk : za_LK} {hx : List Nat} {ini : Bool} (hlk : za_lk C.M.y.cls lk) (hht : za_ht C.M.y.cls C.M.hh hx) (hini : ini = true → C.M.y.name = "<init>") {cuts : Nat → Bool} : ∀ (n pc : Nat) (ls : za_L) (st : List Value) (h : za_H) (c s : Nat), za_f C.G C.M.cc C.M.ret C.M.hh hx ini C.M.fr lk C.mc C.ms C.K cuts (za_w C) n pc ls st h c s → za_w C pc ls st h c s := by
  intro n
  induction n with
  | zero => intro pc ls st h c s hf; exact hf
  | succ n ih =>
    intro pc ls st h c s hf
    rw [za_f_eq] at hf
    split at hf
    · rename_i i len d
      refine za_s_ok X hlk hht hini (fun pc' ls' st' h' c' s' hg => ?_) d hf
      rw [za_go_eq] at hg
      split at hg
      · exact hg
      · exact ih _ _ _ _ _ _ hg
    · exact hf.elim
end ZG
/-- a method by its body: w is the body at a point; it may be shown by a fragment, at any point; K0: what is to be shown at the entry -/
theorem za_meth {G : za_G} {M : za_M} {lk : za_LK} {hx : List Nat} {ini : Bool} {cuts : Nat → Bool} {as : List Value} {h : za_H} {mc ms : Nat} {K : za_O → za_H → Prop} (F : za_F G) (hlk : za_lk M.y.cls lk) (hht : za_ht M.y.cls M.hh hx) (hini : ini = true → M.y.name = "<init>") (hpl : plainName M.y.cls = true) (has : as.length ≤ M.nL) (hcat : ∀ v ∈ as, v.category = 1)
    (body : ∀ w : za_N, (∀ (n pc : Nat) (ls : za_L) (st : List Value) (h : za_H) (c s : Nat), za_f G M.cc M.ret M.hh hx ini M.fr lk mc ms K cuts w n pc ls st h c s → w pc ls st h c s) → w 0 (as.map some ++ List.replicate (M.nL - as.length) none) [] h 0 0) : za_P G M as h mc ms K := by
  have start : ∀ p e s m args below meth c s₁, BodyLoose p G.l M.y (headSpec [za_cw M] (za_rm M.fr mc ms)) M.cc M.nL M.ret e s m args below meth c s₁ → c.maxLocals = M.nL → c.exceptionTable.toList = tableOf M.hh → za_Pc G as h args s →
      W p G.l e (headSpec [za_cw M] (za_rm M.fr mc ms)).room s m args below meth c s.heap [] 0 0 (vx_MQ below (za_Qc G K) (za_Xc G K) args s mc ms (za_A G)) (entryFrame m args M.nL) := by
    intro p e s m args below meth c s₁ B hml ht hPc
    obtain ⟨rfl, hW, hR⟩ := hPc
    have X : za_X (G, M, mc, ms, K, p, e, s, m, as.toArray, below, meth, c) := ⟨B.exec, B.bytes, hml, findClass_of_methodNamed B.named, B.notSynchronized, hW, F, (name_of_methodNamed B.named B.method).1, B.returns, ht⟩
    have hb := body (za_w (G, M, mc, ms, K, p, e, s, m, as.toArray, below, meth, c)) (za_f_ok X hlk hht hini)
    have h9 := hb s.heap [] _ hR hW.2 (fun z hz => by cases hz) (za_l.entry as M.nL has hcat)
    rw [entry_eq m as hcat]
    exact h9
  unfold za_P
  cases hh : M.hh with
  | nil =>
    have ec : za_cw M = .code M.y M.cc M.nL M.ret := za_cwc hh
    refine vx_ofW (cc := M.cc) (maxL := M.nL) (ret := M.ret) (ws' := []) hpl (by rw [ec]) ?_
    intro p e s m args below meth c s₁ B hml ht hPc
    refine start p e s m args below meth c s₁ B hml ?_ hPc
    rw [hh]
    exact List.eq_nil_iff_forall_not_mem.mpr ht
  | cons t ts =>
    have ec : za_cw M = .codeWith M.y M.cc M.nL M.ret M.hh := by unfold za_cw; rw [hh]
    refine vx_ofWH (cc := M.cc) (maxL := M.nL) (ret := M.ret) (hh := M.hh) (ws' := []) hpl (by rw [ec]) ?_
    intro p e s m args below meth c s₁ B hml hPc
    refine start p e s m args below meth c s₁ B hml ?_ hPc
    exact vx_table (x := M.y) B (bytes := M.cc) (maxL' := M.nL) (ret' := M.ret) (by rw [← ec]; exact atoms_spec (ws := [za_cw M]) B.pre _ List.mem_cons_self)
end
section
/-! THE PLAIN LAYER (8): the rows by which simp walks a fragment: no continuation is looked into before its turn -/
def za_lv : za_L → Nat → Value
  | [], _ => .retAddr 0
  | none :: _, 0 => .retAddr 0
  | some v :: _, 0 => v
  | _ :: t, n + 1 => za_lv t n
theorem za_lv_0 (v : Value) (t : za_L) : za_lv (some v :: t) 0 = v := rfl
theorem za_lv_s (x : Option Value) (t : za_L) (n : Nat) : za_lv (x :: t) (n + 1) = za_lv t n := by cases x <;> rfl
theorem za_lv_at : ∀ (ls : za_L) (k : Nat), (∃ v, ls[k]? = some (some v) ∧ za_lv ls k = v) ∨ ((∀ v, ls[k]? ≠ some (some v)) ∧ za_lv ls k = .retAddr 0)
  | [], k => Or.inr ⟨fun v h => (by cases h), rfl⟩
  | none :: t, 0 => Or.inr ⟨fun v h => (by cases h), rfl⟩
  | some v :: t, 0 => Or.inl ⟨v, rfl, rfl⟩
  | x :: t, n + 1 => by
    rw [za_lv_s]
    simpa using za_lv_at t n
def za_isI (v : Value) : Prop := match v with
  | .int _ => True
  | _ => False
theorem za_isI_i (x : Int32) : za_isI (.int x) = True := rfl
theorem za_rf_r (a : Nat) : za_rf (.ref a) = True := eq_true (Or.inr ⟨a, rfl⟩)
theorem za_rf_n : za_rf .null = True := eq_true (Or.inl rfl)
theorem za_rf_v (r : Option Nat) : za_rf (va_rf r) = True := by
  cases r with
  | none => exact za_rf_n
  | some a => exact za_rf_r a
def za_ck (e : Option za_E) : Option Nat := match e with
  | some (.inr o) => some o.1
  | _ => none
theorem za_ck_r (ci : Nat) (fs : List Value) : za_ck (some (.inr (ci, fs))) = some ci := rfl
theorem za_isC_eq (h : za_H) (b ci : Nat) : za_isC h b ci = (za_ck (h b) = some ci) := propext ⟨fun ⟨fs, q⟩ => by rw [q]; rfl, fun q => by
  unfold za_ck at q
  split at q
  · rename_i o ho
    cases q
    exact ⟨o.2, ho⟩
  · cases q⟩
def za_d (G : za_G) (cc : ByteArray) (ret : Option FieldType) (hh : List (Nat × Nat × Nat × Nat)) (hx : List Nat) (ini : Bool) (fr : Nat) (lk : za_LK) (mc ms : Nat) (K : za_O → za_H → Prop) (nx : za_N) (r : Except DecodeError (Instr × Nat)) (pc : Nat) (ls : za_L) (st : List Value) (h : za_H) (c s : Nat) : Prop := match r with
  | .ok (i, len) => za_s G cc ret hh hx ini fr lk mc ms K nx i len pc ls st h c s
  | _ => False
section ZH
variable {G : za_G} {cc : ByteArray} {ret : Option FieldType} {hh : List (Nat × Nat × Nat × Nat)} {hx : List Nat} {ini : Bool} {fr : Nat} {lk : za_LK} {mc ms : Nat} {K : za_O → za_H → Prop} {nx w : za_N} {cuts : Nat → Bool} {n pc : Nat} {ls : za_L} {st : List Value} {h : za_H} {c s : Nat}
theorem zs_f : za_f G cc ret hh hx ini fr lk mc ms K cuts w (n + 1) pc ls st h c s = za_d G cc ret hh hx ini fr lk mc ms K (za_go G cc ret hh hx ini fr lk mc ms K cuts w n) (decode cc pc) pc ls st h c s := rfl
theorem zs_d {i : Instr} {len : Nat} : za_d G cc ret hh hx ini fr lk mc ms K nx (.ok (i, len)) pc ls st h c s = za_s G cc ret hh hx ini fr lk mc ms K nx i len pc ls st h c s := rfl
theorem zs_iconst {k : Int} : za_s G cc ret hh hx ini fr lk mc ms K nx (.iconst k) 1 pc ls st h c s = (nx (pc + 1) ls (.int (Int32.ofInt k) :: st) h c s) := propext ⟨fun q => q.2, fun q => ⟨rfl, q⟩⟩
theorem zs_bipush {k : Int} : za_s G cc ret hh hx ini fr lk mc ms K nx (.bipush k) 2 pc ls st h c s = (nx (pc + 2) ls (.int (Int8.ofInt k).toInt32 :: st) h c s) := propext ⟨fun q => q.2, fun q => ⟨rfl, q⟩⟩
theorem zs_sipush {k : Int} : za_s G cc ret hh hx ini fr lk mc ms K nx (.sipush k) 3 pc ls st h c s = (nx (pc + 3) ls (.int (Int16.ofInt k).toInt32 :: st) h c s) := propext ⟨fun q => q.2, fun q => ⟨rfl, q⟩⟩
theorem zs_lconst {k : Fin 2} : za_s G cc ret hh hx ini fr lk mc ms K nx (.lconst k) 1 pc ls st h c s = (nx (pc + 1) ls (.long (Int64.ofNat (k : Nat)) :: st) h c s) := propext ⟨fun q => q.2, fun q => ⟨rfl, q⟩⟩
theorem zs_null  : za_s G cc ret hh hx ini fr lk mc ms K nx .aconst_null 1 pc ls st h c s = (nx (pc + 1) ls (.null :: st) h c s) := propext ⟨fun q => q.2, fun q => ⟨rfl, q⟩⟩
theorem zs_iload_n {k : Fin 4} : za_s G cc ret hh hx ini fr lk mc ms K nx (.iload_n k) 1 pc ls st h c s = (za_isI (za_lv ls (za_fn k)) ∧ nx (pc + 1) ls (za_lv ls (za_fn k) :: st) h c s) := by
  refine propext ⟨fun q => ?_, fun q => ⟨rfl, ?_⟩⟩
  · obtain ⟨-, q⟩ := q
    rcases za_lv_at ls (za_fn k) with ⟨v, e1, e2⟩ | ⟨e1, e2⟩
    · rw [e1] at q; rw [e2]
      cases v <;> first | exact ⟨trivial, q⟩ | exact q.elim
    · split at q
      · rename_i hq; exact absurd hq (e1 _)
      · exact q.elim
  · rcases za_lv_at ls (za_fn k) with ⟨v, e1, e2⟩ | ⟨e1, e2⟩
    · rw [e1]; rw [e2] at q
      cases v <;> first | exact q.2 | exact q.1.elim
    · rw [e2] at q; exact q.1.elim
theorem zs_iload {k : Nat} : za_s G cc ret hh hx ini fr lk mc ms K nx (.iload k) 2 pc ls st h c s = (za_isI (za_lv ls k) ∧ nx (pc + 2) ls (za_lv ls k :: st) h c s) := by
  refine propext ⟨fun q => ?_, fun q => ⟨rfl, ?_⟩⟩
  · obtain ⟨-, q⟩ := q
    rcases za_lv_at ls k with ⟨v, e1, e2⟩ | ⟨e1, e2⟩
    · rw [e1] at q; rw [e2]
      cases v <;> first | exact ⟨trivial, q⟩ | exact q.elim
    · split at q
      · rename_i hq; exact absurd hq (e1 _)
      · exact q.elim
  · rcases za_lv_at ls k with ⟨v, e1, e2⟩ | ⟨e1, e2⟩
    · rw [e1]; rw [e2] at q
      cases v <;> first | exact q.2 | exact q.1.elim
    · rw [e2] at q; exact q.1.elim
theorem zs_aload_n {k : Fin 4} : za_s G cc ret hh hx ini fr lk mc ms K nx (.aload_n k) 1 pc ls st h c s = (za_rf (za_lv ls (za_fn k)) ∧ nx (pc + 1) ls (za_lv ls (za_fn k) :: st) h c s) := by
  refine propext ⟨fun q => ?_, fun q => ⟨rfl, ?_⟩⟩
  · obtain ⟨-, q⟩ := q
    rcases za_lv_at ls (za_fn k) with ⟨v, e1, e2⟩ | ⟨e1, e2⟩
    · rw [e1] at q; rw [e2]; exact q
    · split at q
      · rename_i hq; exact absurd hq (e1 _)
      · exact q.elim
  · rcases za_lv_at ls (za_fn k) with ⟨v, e1, e2⟩ | ⟨e1, e2⟩
    · rw [e1]; rw [e2] at q; exact q
    · rw [e2] at q
      rcases q.1 with z | ⟨a, z⟩ <;> cases z
theorem zs_aload {k : Nat} : za_s G cc ret hh hx ini fr lk mc ms K nx (.aload k) 2 pc ls st h c s = (za_rf (za_lv ls k) ∧ nx (pc + 2) ls (za_lv ls k :: st) h c s) := by
  refine propext ⟨fun q => ?_, fun q => ⟨rfl, ?_⟩⟩
  · obtain ⟨-, q⟩ := q
    rcases za_lv_at ls k with ⟨v, e1, e2⟩ | ⟨e1, e2⟩
    · rw [e1] at q; rw [e2]; exact q
    · split at q
      · rename_i hq; exact absurd hq (e1 _)
      · exact q.elim
  · rcases za_lv_at ls k with ⟨v, e1, e2⟩ | ⟨e1, e2⟩
    · rw [e1]; rw [e2] at q; exact q
    · rw [e2] at q
      rcases q.1 with z | ⟨a, z⟩ <;> cases z
/-- what an int on the stack is -/
def za_iv (v : Value) : Int32 := match v with
  | .int x => x
  | _ => 0
theorem za_iv_i (x : Int32) : za_iv (.int x) = x := rfl
theorem zs_iinc {k : Nat} {j : Int} : za_s G cc ret hh hx ini fr lk mc ms K nx (.iinc k j) 3 pc ls st h c s = (za_isI (za_lv ls k) ∧ nx (pc + 3) (ls.set k (some (.int (za_iv (za_lv ls k) + Int32.ofInt j)))) st h c s) := by
  refine propext ⟨fun q => ?_, fun q => ⟨rfl, ?_⟩⟩
  · obtain ⟨-, q⟩ := q
    rcases za_lv_at ls k with ⟨v, e1, e2⟩ | ⟨e1, e2⟩
    · rw [e1] at q; rw [e2]
      cases v <;> first | exact ⟨trivial, q⟩ | exact q.elim
    · split at q
      · rename_i hq; exact absurd hq (e1 _)
      · exact q.elim
  · rcases za_lv_at ls k with ⟨v, e1, e2⟩ | ⟨e1, e2⟩
    · rw [e1]; rw [e2] at q
      cases v <;> first | exact q.2 | exact q.1.elim
    · rw [e2] at q; exact q.1.elim
theorem zs_istore_n {k : Fin 4} {x : Int32} : za_s G cc ret hh hx ini fr lk mc ms K nx (.istore_n k) 1 pc ls (.int x :: st) h c s = ((za_fn k) < ls.length ∧ nx (pc + 1) (ls.set (za_fn k) (some (.int x))) st h c s) := propext ⟨fun q => q.2, fun q => ⟨rfl, q⟩⟩
theorem zs_istore {k : Nat} {x : Int32} : za_s G cc ret hh hx ini fr lk mc ms K nx (.istore k) 2 pc ls (.int x :: st) h c s = (k < ls.length ∧ nx (pc + 2) (ls.set k (some (.int x))) st h c s) := propext ⟨fun q => q.2, fun q => ⟨rfl, q⟩⟩
theorem zs_astore_n {k : Fin 4} {v : Value} : za_s G cc ret hh hx ini fr lk mc ms K nx (.astore_n k) 1 pc ls (v :: st) h c s = (za_rf v ∧ (za_fn k) < ls.length ∧ nx (pc + 1) (ls.set (za_fn k) (some v)) st h c s) := propext ⟨fun q => q.2, fun q => ⟨rfl, q⟩⟩
theorem zs_astore {k : Nat} {v : Value} : za_s G cc ret hh hx ini fr lk mc ms K nx (.astore k) 2 pc ls (v :: st) h c s = (za_rf v ∧ k < ls.length ∧ nx (pc + 2) (ls.set k (some v)) st h c s) := propext ⟨fun q => q.2, fun q => ⟨rfl, q⟩⟩
theorem zs_iadd {x y : Int32} : za_s G cc ret hh hx ini fr lk mc ms K nx .iadd 1 pc ls (.int y :: .int x :: st) h c s = (nx (pc + 1) ls (.int (x + y) :: st) h c s) := propext ⟨fun q => q.2, fun q => ⟨rfl, q⟩⟩
theorem zs_isub {x y : Int32} : za_s G cc ret hh hx ini fr lk mc ms K nx .isub 1 pc ls (.int y :: .int x :: st) h c s = (nx (pc + 1) ls (.int (x - y) :: st) h c s) := propext ⟨fun q => q.2, fun q => ⟨rfl, q⟩⟩
theorem zs_imul {x y : Int32} : za_s G cc ret hh hx ini fr lk mc ms K nx .imul 1 pc ls (.int y :: .int x :: st) h c s = (nx (pc + 1) ls (.int (x * y) :: st) h c s) := propext ⟨fun q => q.2, fun q => ⟨rfl, q⟩⟩
theorem zs_iand {x y : Int32} : za_s G cc ret hh hx ini fr lk mc ms K nx .iand 1 pc ls (.int y :: .int x :: st) h c s = (nx (pc + 1) ls (.int (x &&& y) :: st) h c s) := propext ⟨fun q => q.2, fun q => ⟨rfl, q⟩⟩
theorem zs_ior {x y : Int32} : za_s G cc ret hh hx ini fr lk mc ms K nx .ior 1 pc ls (.int y :: .int x :: st) h c s = (nx (pc + 1) ls (.int (x ||| y) :: st) h c s) := propext ⟨fun q => q.2, fun q => ⟨rfl, q⟩⟩
theorem zs_ixor {x y : Int32} : za_s G cc ret hh hx ini fr lk mc ms K nx .ixor 1 pc ls (.int y :: .int x :: st) h c s = (nx (pc + 1) ls (.int (x ^^^ y) :: st) h c s) := propext ⟨fun q => q.2, fun q => ⟨rfl, q⟩⟩
theorem zs_ishl {x y : Int32} : za_s G cc ret hh hx ini fr lk mc ms K nx .ishl 1 pc ls (.int y :: .int x :: st) h c s = (nx (pc + 1) ls (.int (x <<< (y &&& 31)) :: st) h c s) := propext ⟨fun q => q.2, fun q => ⟨rfl, q⟩⟩
theorem zs_ishr {x y : Int32} : za_s G cc ret hh hx ini fr lk mc ms K nx .ishr 1 pc ls (.int y :: .int x :: st) h c s = (nx (pc + 1) ls (.int (x >>> (y &&& 31)) :: st) h c s) := propext ⟨fun q => q.2, fun q => ⟨rfl, q⟩⟩
theorem zs_idiv {x y : Int32} : za_s G cc ret hh hx ini fr lk mc ms K nx .idiv 1 pc ls (.int y :: .int x :: st) h c s = (¬ y = nI 0 ∧ nx (pc + 1) ls (.int (x / y) :: st) h c s) := propext ⟨fun q => q.2, fun q => ⟨rfl, q⟩⟩
theorem zs_irem {x y : Int32} : za_s G cc ret hh hx ini fr lk mc ms K nx .irem 1 pc ls (.int y :: .int x :: st) h c s = (¬ y = nI 0 ∧ nx (pc + 1) ls (.int (x - x / y * y) :: st) h c s) := propext ⟨fun q => q.2, fun q => ⟨rfl, q⟩⟩
theorem zs_lshl {x : Int64} {y : Int32} : za_s G cc ret hh hx ini fr lk mc ms K nx .lshl 1 pc ls (.int y :: .long x :: st) h c s = (nx (pc + 1) ls (.long (x <<< (y.toInt64 &&& 63)) :: st) h c s) := propext ⟨fun q => q.2, fun q => ⟨rfl, q⟩⟩
theorem zs_lshr {x : Int64} {y : Int32} : za_s G cc ret hh hx ini fr lk mc ms K nx .lshr 1 pc ls (.int y :: .long x :: st) h c s = (nx (pc + 1) ls (.long (x >>> (y.toInt64 &&& 63)) :: st) h c s) := propext ⟨fun q => q.2, fun q => ⟨rfl, q⟩⟩
theorem zs_land {x y : Int64} : za_s G cc ret hh hx ini fr lk mc ms K nx .land 1 pc ls (.long y :: .long x :: st) h c s = (nx (pc + 1) ls (.long (x &&& y) :: st) h c s) := propext ⟨fun q => q.2, fun q => ⟨rfl, q⟩⟩
theorem zs_lor {x y : Int64} : za_s G cc ret hh hx ini fr lk mc ms K nx .lor 1 pc ls (.long y :: .long x :: st) h c s = (nx (pc + 1) ls (.long (x ||| y) :: st) h c s) := propext ⟨fun q => q.2, fun q => ⟨rfl, q⟩⟩
theorem zs_lstore {k : Nat} {x : Int64} : za_s G cc ret hh hx ini fr lk mc ms K nx (.lstore k) 2 pc ls (.long x :: st) h c s = (k + 1 < ls.length ∧ nx (pc + 2) ((ls.set k (some (.long x))).set (k + 1) none) st h c s) := propext ⟨fun q => q.2, fun q => ⟨rfl, q⟩⟩
/-- a long's place in the locals -/
def za_lg (ls : za_L) (k : Nat) : Option Int64 := match ls[k]?, ls[k + 1]? with
  | some (some (.long x)), some none => some x
  | _, _ => none
theorem za_lg_0 (x : Int64) (t : za_L) : za_lg (some (.long x) :: none :: t) 0 = some x := rfl
theorem za_lg_s (v : Option Value) (t : za_L) (n : Nat) : za_lg (v :: t) (n + 1) = za_lg t n := rfl
def za_ll (nx : za_N) (pc : Nat) (ls : za_L) (st : List Value) (h : za_H) (c s : Nat) (o : Option Int64) : Prop := match o with
  | some x => nx pc ls (.long x :: st) h c s
  | none => False
theorem za_ll_s {x : Int64} : za_ll nx pc ls st h c s (some x) = nx pc ls (.long x :: st) h c s := rfl
def za_lc (nx : za_N) (pc : Nat) (ls : za_L) (st : List Value) (h : za_H) (c s : Nat) (o : Option Int32) : Prop := match o with
  | some x => nx (pc + 2) ls (.int x :: st) h c s
  | none => False
theorem za_lc_s {x : Int32} : za_lc nx pc ls st h c s (some x) = nx (pc + 2) ls (.int x :: st) h c s := rfl
theorem zs_lload_n {k : Fin 4} : za_s G cc ret hh hx ini fr lk mc ms K nx (.lload_n k) 1 pc ls st h c s = (za_ll nx (pc + 1) ls st h c s (za_lg ls (za_fn k))) := by
  refine propext ⟨fun q => ?_, fun q => ⟨rfl, ?_⟩⟩
  · obtain ⟨-, q⟩ := q
    unfold za_lg
    split at q
    · rename_i e1 e2
      rw [e1, e2]
      exact q
    · exact q.elim
  · unfold za_lg at q
    split at q
    · rename_i e1 e2
      rw [e1, e2]
      exact q
    · exact q.elim
theorem zs_lload {k : Nat} : za_s G cc ret hh hx ini fr lk mc ms K nx (.lload k) 2 pc ls st h c s = (za_ll nx (pc + 2) ls st h c s (za_lg ls k)) := by
  refine propext ⟨fun q => ?_, fun q => ⟨rfl, ?_⟩⟩
  · obtain ⟨-, q⟩ := q
    unfold za_lg
    split at q
    · rename_i e1 e2
      rw [e1, e2]
      exact q
    · exact q.elim
  · unfold za_lg at q
    split at q
    · rename_i e1 e2
      rw [e1, e2]
      exact q
    · exact q.elim
theorem zs_ldc {idx : Nat} : za_s G cc ret hh hx ini fr lk mc ms K nx (.ldc idx) 2 pc ls st h c s = (za_lc nx pc ls st h c s (lk.cn idx)) := propext ⟨fun q => q.2, fun q => ⟨rfl, q⟩⟩
theorem zs_i2l {x : Int32} : za_s G cc ret hh hx ini fr lk mc ms K nx .i2l 1 pc ls (.int x :: st) h c s = (nx (pc + 1) ls (.long x.toInt64 :: st) h c s) := propext ⟨fun q => q.2, fun q => ⟨rfl, q⟩⟩
theorem zs_lcmp {x y : Int64} : za_s G cc ret hh hx ini fr lk mc ms K nx .lcmp 1 pc ls (.long y :: .long x :: st) h c s = (nx (pc + 1) ls (.int (lg_cmp x y) :: st) h c s) := propext ⟨fun q => q.2, fun q => ⟨rfl, q⟩⟩
theorem zs_dup {v : Value} : za_s G cc ret hh hx ini fr lk mc ms K nx .dup 1 pc ls (v :: st) h c s = (v.category = 1 ∧ nx (pc + 1) ls (v :: v :: st) h c s) := propext ⟨fun q => q.2, fun q => ⟨rfl, q⟩⟩
theorem zs_dup_x1 {v w : Value} : za_s G cc ret hh hx ini fr lk mc ms K nx .dup_x1 1 pc ls (v :: w :: st) h c s = (v.category = 1 ∧ w.category = 1 ∧ nx (pc + 1) ls (v :: w :: v :: st) h c s) := propext ⟨fun q => q.2, fun q => ⟨rfl, q⟩⟩
theorem zs_dup2 {v w : Value} : za_s G cc ret hh hx ini fr lk mc ms K nx .dup2 1 pc ls (v :: w :: st) h c s = (v.category = 1 ∧ w.category = 1 ∧ nx (pc + 1) ls (v :: w :: v :: w :: st) h c s) := propext ⟨fun q => q.2, fun q => ⟨rfl, q⟩⟩
theorem zs_pop {v : Value} : za_s G cc ret hh hx ini fr lk mc ms K nx .pop 1 pc ls (v :: st) h c s = (v.category = 1 ∧ nx (pc + 1) ls st h c s) := propext ⟨fun q => q.2, fun q => ⟨rfl, q⟩⟩
def za_t (pc : Nat) (off : Int) : Nat := ((pc : Int) + off).toNat
theorem za_t_p {pc k : Nat} : za_t pc (OfNat.ofNat k : Int) = pc + k := by unfold za_t; exact (show ((pc : Int) + (k : Int)).toNat = _ by omega)
theorem za_t_n {pc k : Nat} : za_t pc (-(OfNat.ofNat k : Int)) = pc - k := by unfold za_t; exact (show ((pc : Int) + -(k : Int)).toNat = _ by omega)
def za_t0 (pc : Nat) (off : Int) : Prop := 0 ≤ (pc : Int) + off
theorem za_t0_p {pc k : Nat} : za_t0 pc (OfNat.ofNat k : Int) = True := eq_true (show 0 ≤ (pc : Int) + (k : Int) by omega)
theorem za_t0_n {pc k : Nat} : za_t0 pc (-(OfNat.ofNat k : Int)) = (k ≤ pc) := propext (show 0 ≤ (pc : Int) + -(k : Int) ↔ _ by omega)
theorem zs_goto {off : Int} : za_s G cc ret hh hx ini fr lk mc ms K nx (.goto off) 3 pc ls st h c s = (za_t0 pc off ∧ nx (za_t pc off) ls st h c s) := propext ⟨fun q => q.2, fun q => ⟨rfl, q⟩⟩
theorem zs_icmp {op : ClassFile.Cond} {off : Int} {x y : Int32} : za_s G cc ret hh hx ini fr lk mc ms K nx (.if_icmp op off) 3 pc ls (.int y :: .int x :: st) h c s = (za_t0 pc off ∧ (za_cd op x y → nx (za_t pc off) ls st h c s) ∧ (¬ za_cd op x y → nx (pc + 3) ls st h c s)) := propext ⟨fun q => q.2, fun q => ⟨rfl, q⟩⟩
theorem zs_ifc {op : ClassFile.Cond} {off : Int} {x : Int32} : za_s G cc ret hh hx ini fr lk mc ms K nx (.ifCond op off) 3 pc ls (.int x :: st) h c s = (za_t0 pc off ∧ (za_cd op x (nI 0) → nx (za_t pc off) ls st h c s) ∧ (¬ za_cd op x (nI 0) → nx (pc + 3) ls st h c s)) := propext ⟨fun q => q.2, fun q => ⟨rfl, q⟩⟩
theorem zs_nonnull {off : Int} {v : Value} : za_s G cc ret hh hx ini fr lk mc ms K nx (.ifnonnull off) 3 pc ls (v :: st) h c s = (za_rf v ∧ za_t0 pc off ∧ (¬ v = .null → nx (za_t pc off) ls st h c s) ∧ (¬ ¬ v = .null → nx (pc + 3) ls st h c s)) := propext ⟨fun q => q.2, fun q => ⟨rfl, q⟩⟩
theorem zs_acmp_eq {off : Int} {v w : Value} : za_s G cc ret hh hx ini fr lk mc ms K nx (.if_acmp .eq off) 3 pc ls (w :: v :: st) h c s = (za_rf v ∧ za_rf w ∧ za_t0 pc off ∧ (v = w → nx (za_t pc off) ls st h c s) ∧ (¬ v = w → nx (pc + 3) ls st h c s)) := propext ⟨fun q => q.2, fun q => ⟨rfl, q⟩⟩
theorem zs_acmp_ne {off : Int} {v w : Value} : za_s G cc ret hh hx ini fr lk mc ms K nx (.if_acmp .ne off) 3 pc ls (w :: v :: st) h c s = (za_rf v ∧ za_rf w ∧ za_t0 pc off ∧ (¬ v = w → nx (za_t pc off) ls st h c s) ∧ (¬ ¬ v = w → nx (pc + 3) ls st h c s)) := propext ⟨fun q => q.2, fun q => ⟨rfl, q⟩⟩
/-- where a switch goes -/
def za_si (x : Int32) (dflt lo hi : Int) (offs : Array Int) : Option Int := if x.toInt < lo ∨ hi < x.toInt then some dflt else offs[(x.toInt - lo).toNat]?
def za_sw (nx : za_N) (pc : Nat) (ls : za_L) (st : List Value) (h : za_H) (c s : Nat) (o : Option Int) : Prop := match o with
  | some off => za_t0 pc off ∧ nx (za_t pc off) ls st h c s
  | none => False
theorem za_sw_s {off : Int} : za_sw nx pc ls st h c s (some off) = (za_t0 pc off ∧ nx (za_t pc off) ls st h c s) := rfl
theorem zs_switch {dflt lo hi : Int} {offs : Array Int} {len : Nat} {x : Int32} : za_s G cc ret hh hx ini fr lk mc ms K nx (.tableswitch dflt lo hi offs) len pc ls (.int x :: st) h c s = (za_sw nx pc ls st h c s (za_si x dflt lo hi offs)) := by
  unfold za_si
  refine propext ⟨fun q => ?_, fun q => ⟨fun hp => ?_, fun hp => ?_⟩⟩
  · by_cases hp : x.toInt < lo ∨ hi < x.toInt
    · rw [if_pos hp]; exact q.1 hp
    · rw [if_neg hp]
      have q2 := q.2 hp
      split at q2
      · rename_i off ho; rw [ho]; exact q2
      · exact q2.elim
  · rw [if_pos hp] at q; exact q
  · rw [if_neg hp] at q
    split
    · rename_i off ho; rw [ho] at q; exact q
    · rename_i ho; rw [ho] at q; exact q
def za_iaload (nx : za_N) (pc : Nat) (ls : za_L) (st : List Value) (h : za_H) (c s : Nat) (j : Int32) (e : Option za_E) : Prop := match e with
  | some (.inl (.int, n, .inl f)) => vp_in j n ∧ nx (pc + 1) ls (.int (f j.toNatClampNeg) :: st) h c s
  | _ => False
theorem za_iaload_s {n : Nat} {j : Int32} {f : Nat → Int32} : za_iaload nx pc ls st h c s j (some (.inl (.int, n, .inl f))) = (vp_in j n ∧ nx (pc + 1) ls (.int (f j.toNatClampNeg) :: st) h c s) := rfl
theorem zs_iaload {j : Int32} {a : Nat} : za_s G cc ret hh hx ini fr lk mc ms K nx .iaload 1 pc ls (.int j :: .ref a :: st) h c s = (za_iaload nx pc ls st h c s j (h a)) := propext ⟨fun q => q.2, fun q => ⟨rfl, q⟩⟩
def za_baload (nx : za_N) (pc : Nat) (ls : za_L) (st : List Value) (h : za_H) (c s : Nat) (j : Int32) (e : Option za_E) : Prop := match e with
  | some (.inl (.boolean, n, .inl f)) => vp_in j n ∧ nx (pc + 1) ls (.int (f j.toNatClampNeg) :: st) h c s
  | _ => False
theorem za_baload_s {n : Nat} {j : Int32} {f : Nat → Int32} : za_baload nx pc ls st h c s j (some (.inl (.boolean, n, .inl f))) = (vp_in j n ∧ nx (pc + 1) ls (.int (f j.toNatClampNeg) :: st) h c s) := rfl
theorem zs_baload {j : Int32} {a : Nat} : za_s G cc ret hh hx ini fr lk mc ms K nx .baload 1 pc ls (.int j :: .ref a :: st) h c s = (za_baload nx pc ls st h c s j (h a)) := propext ⟨fun q => q.2, fun q => ⟨rfl, q⟩⟩
def za_laload (nx : za_N) (pc : Nat) (ls : za_L) (st : List Value) (h : za_H) (c s : Nat) (j : Int32) (e : Option za_E) : Prop := match e with
  | some (.inl (.long, n, .inr (.inl f))) => vp_in j n ∧ nx (pc + 1) ls (.long (f j.toNatClampNeg) :: st) h c s
  | _ => False
theorem za_laload_s {n : Nat} {j : Int32} {f : Nat → Int64} : za_laload nx pc ls st h c s j (some (.inl (.long, n, .inr (.inl f)))) = (vp_in j n ∧ nx (pc + 1) ls (.long (f j.toNatClampNeg) :: st) h c s) := rfl
theorem zs_laload {j : Int32} {a : Nat} : za_s G cc ret hh hx ini fr lk mc ms K nx .laload 1 pc ls (.int j :: .ref a :: st) h c s = (za_laload nx pc ls st h c s j (h a)) := propext ⟨fun q => q.2, fun q => ⟨rfl, q⟩⟩
def za_aaload (nx : za_N) (pc : Nat) (ls : za_L) (st : List Value) (h : za_H) (c s : Nat) (j : Int32) (e : Option za_E) : Prop := match e with
  | some (.inl (.object _, n, .inr (.inr (.inr (.inr f))))) => vp_in j n ∧ nx (pc + 1) ls (va_rf (f j.toNatClampNeg) :: st) h c s
  | _ => False
theorem za_aaload_s {n : Nat} {j : Int32} {f : Nat → Option Nat} {E : String} : za_aaload nx pc ls st h c s j (some (.inl (.object E, n, .inr (.inr (.inr (.inr f)))))) = (vp_in j n ∧ nx (pc + 1) ls (va_rf (f j.toNatClampNeg) :: st) h c s) := rfl
theorem zs_aaload {j : Int32} {a : Nat} : za_s G cc ret hh hx ini fr lk mc ms K nx .aaload 1 pc ls (.int j :: .ref a :: st) h c s = (za_aaload nx pc ls st h c s j (h a)) := propext ⟨fun q => q.2, fun q => ⟨rfl, q⟩⟩
def za_iastore (nx : za_N) (pc : Nat) (ls : za_L) (st : List Value) (h : za_H) (c s : Nat) (j : Int32) (x : Int32) (a : Nat) (e : Option za_E) : Prop := match e with
  | some (.inl (.int, n, .inl f)) => vp_in j n ∧ nx (pc + 1) ls st (za_up h a (.inl (.int, n, .inl (upd f j.toNatClampNeg x)))) c s
  | _ => False
theorem za_iastore_s {n : Nat} {j : Int32} {x : Int32} {a : Nat} {f : Nat → Int32} : za_iastore nx pc ls st h c s j x a (some (.inl (.int, n, .inl f))) = (vp_in j n ∧ nx (pc + 1) ls st (za_up h a (.inl (.int, n, .inl (upd f j.toNatClampNeg x)))) c s) := rfl
theorem zs_iastore {j : Int32} {x : Int32} {a : Nat} : za_s G cc ret hh hx ini fr lk mc ms K nx .iastore 1 pc ls (.int x :: .int j :: .ref a :: st) h c s = (za_iastore nx pc ls st h c s j x a (h a)) := propext ⟨fun q => q.2, fun q => ⟨rfl, q⟩⟩
def za_bastore (nx : za_N) (pc : Nat) (ls : za_L) (st : List Value) (h : za_H) (c s : Nat) (j : Int32) (x : Int32) (a : Nat) (e : Option za_E) : Prop := match e with
  | some (.inl (.boolean, n, .inl f)) => vp_in j n ∧ (x = nI 0 ∨ x = nI 1) ∧ nx (pc + 1) ls st (za_up h a (.inl (.boolean, n, .inl (upd f j.toNatClampNeg x)))) c s
  | _ => False
theorem za_bastore_s {n : Nat} {j : Int32} {x : Int32} {a : Nat} {f : Nat → Int32} : za_bastore nx pc ls st h c s j x a (some (.inl (.boolean, n, .inl f))) = (vp_in j n ∧ (x = nI 0 ∨ x = nI 1) ∧ nx (pc + 1) ls st (za_up h a (.inl (.boolean, n, .inl (upd f j.toNatClampNeg x)))) c s) := rfl
theorem zs_bastore {j : Int32} {x : Int32} {a : Nat} : za_s G cc ret hh hx ini fr lk mc ms K nx .bastore 1 pc ls (.int x :: .int j :: .ref a :: st) h c s = (za_bastore nx pc ls st h c s j x a (h a)) := propext ⟨fun q => q.2, fun q => ⟨rfl, q⟩⟩
def za_lastore (nx : za_N) (pc : Nat) (ls : za_L) (st : List Value) (h : za_H) (c s : Nat) (j : Int32) (x : Int64) (a : Nat) (e : Option za_E) : Prop := match e with
  | some (.inl (.long, n, .inr (.inl f))) => vp_in j n ∧ nx (pc + 1) ls st (za_up h a (.inl (.long, n, .inr (.inl (vp_updL f j.toNatClampNeg x))))) c s
  | _ => False
theorem za_lastore_s {n : Nat} {j : Int32} {x : Int64} {a : Nat} {f : Nat → Int64} : za_lastore nx pc ls st h c s j x a (some (.inl (.long, n, .inr (.inl f)))) = (vp_in j n ∧ nx (pc + 1) ls st (za_up h a (.inl (.long, n, .inr (.inl (vp_updL f j.toNatClampNeg x))))) c s) := rfl
theorem zs_lastore {j : Int32} {x : Int64} {a : Nat} : za_s G cc ret hh hx ini fr lk mc ms K nx .lastore 1 pc ls (.long x :: .int j :: .ref a :: st) h c s = (za_lastore nx pc ls st h c s j x a (h a)) := propext ⟨fun q => q.2, fun q => ⟨rfl, q⟩⟩
def za_aasN (nx : za_N) (pc : Nat) (ls : za_L) (st : List Value) (h : za_H) (c s : Nat) (j : Int32) (a : Nat) (e : Option za_E) : Prop := match e with
  | some (.inl (.object E, n, .inr (.inr (.inr (.inr f))))) => vp_in j n ∧ nx (pc + 1) ls st (za_up h a (.inl (.object E, n, .inr (.inr (.inr (.inr (va_up f j.toNatClampNeg none))))))) c s
  | _ => False
theorem za_aasN_s {n a : Nat} {j : Int32} {E : String} {f : Nat → Option Nat} : za_aasN nx pc ls st h c s j a (some (.inl (.object E, n, .inr (.inr (.inr (.inr f)))))) = (vp_in j n ∧ nx (pc + 1) ls st (za_up h a (.inl (.object E, n, .inr (.inr (.inr (.inr (va_up f j.toNatClampNeg none))))))) c s) := rfl
theorem zs_aastoreN {j : Int32} {a : Nat} : za_s G cc ret hh hx ini fr lk mc ms K nx .aastore 1 pc ls (.null :: .int j :: .ref a :: st) h c s = (za_aasN nx pc ls st h c s j a (h a)) := propext ⟨fun q => q.2, fun q => ⟨rfl, q⟩⟩
def za_aas (nx : za_N) (pc : Nat) (ls : za_L) (st : List Value) (h : za_H) (c s : Nat) (j : Int32) (v a : Nat) (e : Option za_E) : Prop := match e with
  | some (.inl (.object "java/lang/Object", n, .inr (.inr (.inr (.inr f))))) => vp_in j n ∧ (∃ ci, za_isC h v ci ∧ za_cok ci) ∧ nx (pc + 1) ls st (za_up h a (.inl (.object "java/lang/Object", n, .inr (.inr (.inr (.inr (va_up f j.toNatClampNeg (some v)))))))) c s
  | _ => False
theorem za_aas_s {n a v : Nat} {j : Int32} {f : Nat → Option Nat} : za_aas nx pc ls st h c s j v a (some (.inl (.object "java/lang/Object", n, .inr (.inr (.inr (.inr f)))))) = (vp_in j n ∧ (∃ ci, za_isC h v ci ∧ za_cok ci) ∧ nx (pc + 1) ls st (za_up h a (.inl (.object "java/lang/Object", n, .inr (.inr (.inr (.inr (va_up f j.toNatClampNeg (some v)))))))) c s) := rfl
theorem zs_aastore {j : Int32} {v a : Nat} : za_s G cc ret hh hx ini fr lk mc ms K nx .aastore 1 pc ls (.ref v :: .int j :: .ref a :: st) h c s = (za_aas nx pc ls st h c s j v a (h a)) := propext ⟨fun q => q.2, fun q => ⟨rfl, q⟩⟩
def za_alg (G : za_G) (nx : za_N) (pc : Nat) (ls : za_L) (st : List Value) (h : za_H) (c s : Nat) (a : Nat) (e : Option za_E) : Prop := match e with
  | some (.inl (_, n, _)) => nx (pc + 1) ls (.int (nI n) :: st) h c s
  | _ => a = G.t ∧ nx (pc + 1) ls (.int (nI 0) :: st) h c s
theorem za_alg_s {n a : Nat} {ty : FieldType} {x : (Nat → Int32) ⊕ (Nat → Int64) ⊕ (Nat → UInt32) ⊕ (Nat → UInt64) ⊕ (Nat → Option Nat)} : za_alg G nx pc ls st h c s a (some (.inl (ty, n, x))) = nx (pc + 1) ls (.int (nI n) :: st) h c s := rfl
theorem za_alg_n {a : Nat} : za_alg G nx pc ls st h c s a none = (a = G.t ∧ nx (pc + 1) ls (.int (nI 0) :: st) h c s) := rfl
theorem zs_alen {a : Nat} : za_s G cc ret hh hx ini fr lk mc ms K nx .arraylength 1 pc ls (.ref a :: st) h c s = (za_alg G nx pc ls st h c s a (h a)) := propext ⟨fun q => q.2, fun q => ⟨rfl, q⟩⟩
def za_isV (fs : List Value) (k : Nat) : Prop := k < fs.length
def za_vl (fs : List Value) (k : Nat) : Value := fs.getD k .null
def za_gf (nx : za_N) (pc : Nat) (ls : za_L) (st : List Value) (h : za_H) (c s : Nat) (o : Option (Nat × Nat × FieldType × Nat)) (e : Option za_E) : Prop := match o, e with
  | some (ci, k, _, _), some (.inr (ci', fs)) => ci' = ci ∧ k < fs.length ∧ nx (pc + 3) ls (za_vl fs k :: st) h c s
  | _, _ => False
theorem za_gf_s {ci k ci' fi : Nat} {ty : FieldType} {fs : List Value} : za_gf nx pc ls st h c s (some (ci, k, ty, fi)) (some (.inr (ci', fs))) = (ci' = ci ∧ k < fs.length ∧ nx (pc + 3) ls (za_vl fs k :: st) h c s) := rfl
theorem za_vl_0 (v : Value) (t : List Value) : za_vl (v :: t) 0 = v := rfl
theorem za_vl_s (v : Value) (t : List Value) (k : Nat) : za_vl (v :: t) (k + 1) = za_vl t k := rfl
theorem zs_getfield {idx a : Nat} : za_s G cc ret hh hx ini fr lk mc ms K nx (.getfield idx) 3 pc ls (.ref a :: st) h c s = (za_gf nx pc ls st h c s (lk.fl idx) (h a)) := by
  show (3 = 3 ∧ (match lk.fl idx with
    | some (ci, k, _, _) => (match h a with
      | some (.inr (ci', fs)) => ci' = ci ∧ (match fs[k]? with
        | some v => nx (pc + 3) ls (v :: st) h c s
        | none => False)
      | _ => False)
    | none => False)) = _
  generalize lk.fl idx = o
  generalize h a = e
  rcases o with _ | ⟨ci, k, ty, fi⟩
  · cases e <;> exact propext ⟨fun q => q.2.elim, fun q => q.elim⟩
  · rcases e with _ | (e | ⟨ci', fs⟩)
    · exact propext ⟨fun q => q.2.elim, fun q => q.elim⟩
    · exact propext ⟨fun q => q.2.elim, fun q => q.elim⟩
    · by_cases hk : k < fs.length
      · have e1 : fs[k]? = some (za_vl fs k) := by unfold za_vl; rw [List.getD_eq_getElem?_getD, List.getElem?_eq_getElem hk]; rfl
        refine propext ⟨fun q => ⟨q.2.1, hk, ?_⟩, fun q => ⟨rfl, q.1, ?_⟩⟩
        · have q2 := q.2.2
          rw [e1] at q2
          exact q2
        · show (match fs[k]? with
            | some v => _
            | none => False)
          rw [e1]
          exact q.2.2
      · have e1 : fs[k]? = none := List.getElem?_eq_none (by omega)
        refine propext ⟨fun q => ?_, fun q => absurd q.2.1 hk⟩
        have q2 := q.2.2
        rw [e1] at q2
        exact q2.elim
def za_pf (ini : Bool) (nx : za_N) (pc : Nat) (ls : za_L) (st : List Value) (h : za_H) (c s : Nat) (v : Value) (a : Nat) (o : Option (Nat × Nat × FieldType × Nat)) (e : Option za_E) : Prop := match o, e with
  | some (ci, k, ty, fin), some (.inr (ci', fs)) => ci' = ci ∧ k < fs.length ∧ (fin = 0 ∨ (fin = 1 ∧ ini = true)) ∧ za_fit ty v ∧ nx (pc + 3) ls st (za_up h a (.inr (ci, fs.set k v))) c s
  | _, _ => False
theorem za_pf_s {ci k ci' fin a : Nat} {ty : FieldType} {v : Value} {fs : List Value} : za_pf ini nx pc ls st h c s v a (some (ci, k, ty, fin)) (some (.inr (ci', fs))) = (ci' = ci ∧ k < fs.length ∧ (fin = 0 ∨ (fin = 1 ∧ ini = true)) ∧ za_fit ty v ∧ nx (pc + 3) ls st (za_up h a (.inr (ci, fs.set k v))) c s) := rfl
theorem zs_putfield {idx a : Nat} {v : Value} : za_s G cc ret hh hx ini fr lk mc ms K nx (.putfield idx) 3 pc ls (v :: .ref a :: st) h c s = (za_pf ini nx pc ls st h c s v a (lk.fl idx) (h a)) := by
  show (3 = 3 ∧ (match lk.fl idx with
    | some (ci, k, ty, fin) => (match h a with
      | some (.inr (ci', fs)) => ci' = ci ∧ k < fs.length ∧ (fin = 0 ∨ (fin = 1 ∧ ini = true)) ∧ za_fit ty v ∧ nx (pc + 3) ls st (za_up h a (.inr (ci, fs.set k v))) c s
      | _ => False)
    | none => False)) = _
  generalize lk.fl idx = o
  generalize h a = e
  rcases o with _ | ⟨ci, k, ty, fi⟩
  · cases e <;> exact propext ⟨fun q => q.2.elim, fun q => q.elim⟩
  · rcases e with _ | (e | ⟨ci', fs⟩)
    · exact propext ⟨fun q => q.2.elim, fun q => q.elim⟩
    · exact propext ⟨fun q => q.2.elim, fun q => q.elim⟩
    · exact propext ⟨fun q => q.2, fun q => ⟨rfl, q⟩⟩
def za_nw (G : za_G) (cc : ByteArray) (hh : List (Nat × Nat × Nat × Nat)) (fr : Nat) (lk : za_LK) (mc ms : Nat) (K : za_O → za_H → Prop) (nx : za_N) (pc : Nat) (ls : za_L) (st : List Value) (h : za_H) (c s : Nat) (o : Option (Nat × List Value)) (t : Option (Nat × Nat)) : Prop := match o with
  | some (ci, fs) => c + 1 ≤ mc ∧ s + fs.length ≤ ms ∧ ∀ q, za_nn G h q → nx (pc + 3) ls (.ref q :: st) (za_up h q (.inr (ci, fs))) (c + 1) (s + fs.length)
  | none => match t with
    | some (k, ic) => za_th cc hh fr lk mc ms K k ic pc st h c s
    | none => False
theorem za_nw_s {ci : Nat} {fs : List Value} {t : Option (Nat × Nat)} : za_nw G cc hh fr lk mc ms K nx pc ls st h c s (some (ci, fs)) t = (c + 1 ≤ mc ∧ s + fs.length ≤ ms ∧ ∀ q, za_nn G h q → nx (pc + 3) ls (.ref q :: st) (za_up h q (.inr (ci, fs))) (c + 1) (s + fs.length)) := rfl
theorem za_nw_t {k ic : Nat} : za_nw G cc hh fr lk mc ms K nx pc ls st h c s none (some (k, ic)) = za_th cc hh fr lk mc ms K k ic pc st h c s := rfl
def za_tx (cc : ByteArray) (lk : za_LK) (ic pc : Nat) (r : Except DecodeError (Instr × Nat)) : Prop := match r with
  | .ok (.ldc j, 2) => lk.sx j = true ∧ decode cc (pc + 6) = .ok (.invokespecial ic, 3) ∧ decode cc (pc + 9) = .ok (.athrow, 1)
  | .ok (.ldc_w j, 3) => lk.sx j = true ∧ decode cc (pc + 7) = .ok (.invokespecial ic, 3) ∧ decode cc (pc + 10) = .ok (.athrow, 1)
  | _ => False
theorem za_tx_1 {j ic : Nat} : za_tx cc lk ic pc (.ok (.ldc j, 2)) = (lk.sx j = true ∧ decode cc (pc + 6) = .ok (.invokespecial ic, 3) ∧ decode cc (pc + 9) = .ok (.athrow, 1)) := rfl
theorem za_tx_2 {j ic : Nat} : za_tx cc lk ic pc (.ok (.ldc_w j, 3)) = (lk.sx j = true ∧ decode cc (pc + 7) = .ok (.invokespecial ic, 3) ∧ decode cc (pc + 10) = .ok (.athrow, 1)) := rfl
theorem zs_th {k ic : Nat} : za_th cc hh fr lk mc ms K k ic pc st h c s = (hh = [] ∧ 6 ≤ fr ∧ st.length ≤ 4 ∧ c + 1 ≤ mc ∧ s + 6 ≤ ms ∧ decode cc (pc + 3) = .ok (.dup, 1) ∧ K (.inr k) h ∧ za_tx cc lk ic pc (decode cc (pc + 4))) := rfl
theorem zs_new {idx : Nat} : za_s G cc ret hh hx ini fr lk mc ms K nx (.new idx) 3 pc ls st h c s = (za_nw G cc hh fr lk mc ms K nx pc ls st h c s (lk.nw idx) (lk.th idx)) := propext ⟨fun q => q.2, fun q => ⟨rfl, q⟩⟩
theorem zs_newarray {t : ArrayType} {k : Int32} : za_s G cc ret hh hx ini fr lk mc ms K nx (.newarray t) 2 pc ls (.int k :: st) h c s = (t = .int ∧ ¬ k < 0 ∧ k.toNatClampNeg ≤ 1000000 ∧ c + 1 ≤ mc ∧ s + k.toNatClampNeg ≤ ms ∧ ∀ q, za_nn G h q → nx (pc + 2) ls (.ref q :: st) (za_up h q (za_a0 t k.toNatClampNeg)) (c + 1) (s + k.toNatClampNeg)) := propext ⟨fun q => q.2, fun q => ⟨rfl, q⟩⟩
def za_cx (nx : za_N) (pc : Nat) (ls : za_L) (st : List Value) (h : za_H) (c s : Nat) (a : Nat) (o : Option Nat) : Prop := match o with
  | some ci => za_isC h a ci ∧ nx (pc + 3) ls (.ref a :: st) h c s
  | none => False
theorem za_cx_s {a ci : Nat} : za_cx nx pc ls st h c s a (some ci) = (za_isC h a ci ∧ nx (pc + 3) ls (.ref a :: st) h c s) := rfl
theorem zs_checkcast {idx a : Nat} : za_s G cc ret hh hx ini fr lk mc ms K nx (.checkcast idx) 3 pc ls (.ref a :: st) h c s = (za_cx nx pc ls st h c s a (lk.ck idx)) := propext ⟨fun q => q.2, fun q => ⟨rfl, q⟩⟩
def za_vB (G : za_G) (hh : List (Nat × Nat × Nat × Nat)) (hx : List Nat) (mc ms : Nat) (K : za_O → za_H → Prop) (nx : za_N) (pc : Nat) (ls : za_L) (h : za_H) (c s : Nat) (chk : Nat → Prop) (M : za_M) (as : List Value) (r : List Value) : Prop := match r with
  | .ref b :: rest => chk b ∧ rest.length ≤ 4 ∧ za_cl G hh hx mc ms K nx M (.ref b :: as) pc ls rest h c s
  | _ => False
theorem za_vB_s {chk : Nat → Prop} {M : za_M} {as rest : List Value} {b : Nat} : za_vB G hh hx mc ms K nx pc ls h c s chk M as (.ref b :: rest) = (chk b ∧ rest.length ≤ 4 ∧ za_cl G hh hx mc ms K nx M (.ref b :: as) pc ls rest h c s) := rfl
def za_vA (G : za_G) (hh : List (Nat × Nat × Nat × Nat)) (hx : List Nat) (fr mc ms : Nat) (K : za_O → za_H → Prop) (nx : za_N) (pc : Nat) (ls : za_L) (st : List Value) (h : za_H) (c s : Nat) (o : Option (Nat × Nat × Nat × Nat × za_M)) : Prop := match o with
  | some (0, n, ci, f, M) => f + 1 ≤ fr ∧ za_vB G hh hx mc ms K nx pc ls h c s (fun b => za_isC h b ci) M (st.take n).reverse (st.drop n)
  | _ => False
theorem za_vA_s {n ci f : Nat} {M : za_M} : za_vA G hh hx fr mc ms K nx pc ls st h c s (some (0, n, ci, f, M)) = (f + 1 ≤ fr ∧ za_vB G hh hx mc ms K nx pc ls h c s (fun b => za_isC h b ci) M (st.take n).reverse (st.drop n)) := rfl
def za_sX (nx : za_N) (pc : Nat) (ls : za_L) (h : za_H) (c s : Nat) (st : List Value) : Prop := match st with
  | .int b :: .int a :: rest => rest.length ≤ 4 ∧ nx (pc + 3) ls (.int (za_max a b) :: rest) h c s
  | _ => False
theorem za_sX_s {a b : Int32} {rest : List Value} : za_sX nx pc ls h c s (.int b :: .int a :: rest) = (rest.length ≤ 4 ∧ nx (pc + 3) ls (.int (za_max a b) :: rest) h c s) := rfl
def za_sN (nx : za_N) (pc : Nat) (ls : za_L) (h : za_H) (c s : Nat) (st : List Value) : Prop := match st with
  | .int b :: .int a :: rest => rest.length ≤ 4 ∧ nx (pc + 3) ls (.int (za_min a b) :: rest) h c s
  | _ => False
theorem za_sN_s {a b : Int32} {rest : List Value} : za_sN nx pc ls h c s (.int b :: .int a :: rest) = (rest.length ≤ 4 ∧ nx (pc + 3) ls (.int (za_min a b) :: rest) h c s) := rfl
def za_sA (G : za_G) (hh : List (Nat × Nat × Nat × Nat)) (hx : List Nat) (fr mc ms : Nat) (K : za_O → za_H → Prop) (nx : za_N) (pc : Nat) (ls : za_L) (st : List Value) (h : za_H) (c s : Nat) (o : Option (Nat × Nat × Nat × Nat × za_M)) : Prop := match o with
  | some (1, n, _, f, M) => f + 1 ≤ fr ∧ n ≤ st.length ∧ (st.drop n).length ≤ 4 ∧ za_cl G hh hx mc ms K nx M (st.take n).reverse pc ls (st.drop n) h c s
  | some (3, n, _, f, M) => f + 1 ≤ fr ∧ n ≤ st.length ∧ (st.drop n).length ≤ 4 ∧ za_cl G hh hx mc ms K nx M (st.take n).reverse pc ls (st.drop n) h c s
  | some (5, _, _, _, _) => 1 ≤ fr ∧ c ≤ mc ∧ s ≤ ms ∧ za_sX nx pc ls h c s st
  | some (6, _, _, _, _) => 1 ≤ fr ∧ c ≤ mc ∧ s ≤ ms ∧ za_sN nx pc ls h c s st
  | _ => False
theorem za_sA_5 {n ci f : Nat} {M : za_M} : za_sA G hh hx fr mc ms K nx pc ls st h c s (some (5, n, ci, f, M)) = (1 ≤ fr ∧ c ≤ mc ∧ s ≤ ms ∧ za_sX nx pc ls h c s st) := rfl
theorem za_sA_6 {n ci f : Nat} {M : za_M} : za_sA G hh hx fr mc ms K nx pc ls st h c s (some (6, n, ci, f, M)) = (1 ≤ fr ∧ c ≤ mc ∧ s ≤ ms ∧ za_sN nx pc ls h c s st) := rfl
theorem za_sA_1 {n ci f : Nat} {M : za_M} : za_sA G hh hx fr mc ms K nx pc ls st h c s (some (1, n, ci, f, M)) = (f + 1 ≤ fr ∧ n ≤ st.length ∧ (st.drop n).length ≤ 4 ∧ za_cl G hh hx mc ms K nx M (st.take n).reverse pc ls (st.drop n) h c s) := rfl
theorem za_sA_3 {n ci f : Nat} {M : za_M} : za_sA G hh hx fr mc ms K nx pc ls st h c s (some (3, n, ci, f, M)) = (f + 1 ≤ fr ∧ n ≤ st.length ∧ (st.drop n).length ≤ 4 ∧ za_cl G hh hx mc ms K nx M (st.take n).reverse pc ls (st.drop n) h c s) := rfl
def za_oB (nx : za_N) (pc : Nat) (ls : za_L) (h : za_H) (c s : Nat) (st : List Value) : Prop := match st with
  | .ref _ :: rest => rest.length ≤ 4 ∧ nx (pc + 3) ls rest h c s
  | _ => False
theorem za_oB_s {a : Nat} {rest : List Value} : za_oB nx pc ls h c s (.ref a :: rest) = (rest.length ≤ 4 ∧ nx (pc + 3) ls rest h c s) := rfl
def za_iA (G : za_G) (hh : List (Nat × Nat × Nat × Nat)) (hx : List Nat) (fr mc ms : Nat) (K : za_O → za_H → Prop) (nx : za_N) (pc : Nat) (ls : za_L) (st : List Value) (h : za_H) (c s : Nat) (o : Option (Nat × Nat × Nat × Nat × za_M)) : Prop := match o with
  | some (2, n, _, f, M) => f + 1 ≤ fr ∧ za_vB G hh hx mc ms K nx pc ls h c s (fun _ => True) M (st.take n).reverse (st.drop n)
  | some (4, _, _, _, _) => 1 ≤ fr ∧ za_oB nx pc ls h c s st
  | _ => False
theorem za_iA_2 {n ci f : Nat} {M : za_M} : za_iA G hh hx fr mc ms K nx pc ls st h c s (some (2, n, ci, f, M)) = (f + 1 ≤ fr ∧ za_vB G hh hx mc ms K nx pc ls h c s (fun _ => True) M (st.take n).reverse (st.drop n)) := rfl
theorem za_iA_4 {n ci f : Nat} {M : za_M} : za_iA G hh hx fr mc ms K nx pc ls st h c s (some (4, n, ci, f, M)) = (1 ≤ fr ∧ za_oB nx pc ls h c s st) := rfl
theorem zs_invokevirtual {idx : Nat} : za_s G cc ret hh hx ini fr lk mc ms K nx (.invokevirtual idx) 3 pc ls st h c s = (za_vA G hh hx fr mc ms K nx pc ls st h c s (lk.mt idx)) := by
  show (3 = 3 ∧ _) = _
  generalize lk.mt idx = o
  rcases o with _ | ⟨kd, n, ci, f, M⟩
  · exact propext ⟨fun q => q.2.elim, fun q => q.elim⟩
  · cases kd with
    | succ kd => exact propext ⟨fun q => q.2.elim, fun q => q.elim⟩
    | zero =>
      show (3 = 3 ∧ f + 1 ≤ fr ∧ _) = (f + 1 ≤ fr ∧ za_vB G hh hx mc ms K nx pc ls h c s (fun b => za_isC h b ci) M (st.take n).reverse (st.drop n))
      generalize st.drop n = r
      rcases r with _ | ⟨v, r⟩
      · exact propext ⟨fun q => q.2.2.elim, fun q => q.2.elim⟩
      · cases v <;> first | exact propext ⟨fun q => q.2, fun q => ⟨rfl, q⟩⟩ | exact propext ⟨fun q => q.2.2.elim, fun q => q.2.elim⟩
theorem zs_invokestatic {idx : Nat} : za_s G cc ret hh hx ini fr lk mc ms K nx (.invokestatic idx) 3 pc ls st h c s = (za_sA G hh hx fr mc ms K nx pc ls st h c s (lk.mt idx)) := by
  show (3 = 3 ∧ _) = _
  generalize lk.mt idx = o
  rcases o with _ | ⟨kd, n, ci, f, M⟩
  · exact propext ⟨fun q => q.2.elim, fun q => q.elim⟩
  · rcases kd with _ | _ | _ | _ | _ | _ | _ | kd <;> first | exact propext ⟨fun q => q.2, fun q => ⟨rfl, q⟩⟩ | exact propext ⟨fun q => q.2.elim, fun q => q.elim⟩
theorem zs_invokespecial {idx : Nat} : za_s G cc ret hh hx ini fr lk mc ms K nx (.invokespecial idx) 3 pc ls st h c s = (za_iA G hh hx fr mc ms K nx pc ls st h c s (lk.mt idx)) := by
  show (3 = 3 ∧ _) = _
  generalize lk.mt idx = o
  rcases o with _ | ⟨kd, n, ci, f, M⟩
  · exact propext ⟨fun q => q.2.elim, fun q => q.elim⟩
  · rcases kd with _ | _ | _ | _ | _ | kd
    · exact propext ⟨fun q => q.2.elim, fun q => q.elim⟩
    · exact propext ⟨fun q => q.2.elim, fun q => q.elim⟩
    · show (3 = 3 ∧ f + 1 ≤ fr ∧ _) = (f + 1 ≤ fr ∧ za_vB G hh hx mc ms K nx pc ls h c s (fun _ => True) M (st.take n).reverse (st.drop n))
      generalize st.drop n = r
      rcases r with _ | ⟨v, r⟩
      · exact propext ⟨fun q => q.2.2.elim, fun q => q.2.elim⟩
      · cases v <;> first | exact propext ⟨fun q => ⟨q.2.1, trivial, q.2.2⟩, fun q => ⟨rfl, q.1, q.2.2⟩⟩ | exact propext ⟨fun q => q.2.2.elim, fun q => q.2.elim⟩
    · exact propext ⟨fun q => q.2.elim, fun q => q.elim⟩
    · rcases st with _ | ⟨v, st⟩
      · exact propext ⟨fun q => q.2.2.elim, fun q => q.2.elim⟩
      · cases v <;> first | exact propext ⟨fun q => q.2, fun q => ⟨rfl, q⟩⟩ | exact propext ⟨fun q => q.2.2.elim, fun q => q.2.elim⟩
    · exact propext ⟨fun q => q.2.elim, fun q => q.elim⟩
theorem zs_ireturn {v : Int32} {ty : FieldType} : za_s G cc (some ty) hh hx ini fr lk mc ms K nx .ireturn 1 pc ls [.int v] h c s = (narrow ty (.int v) = .int v ∧ c ≤ mc ∧ s ≤ ms ∧ K (.inl (some (.int v))) h) := propext ⟨fun q => q.2, fun q => ⟨rfl, q⟩⟩
theorem zs_return : za_s G cc none hh hx ini fr lk mc ms K nx .return_ 1 pc ls [] h c s = (c ≤ mc ∧ s ≤ ms ∧ K (.inl none) h) := propext ⟨fun q => q.2.2, fun q => ⟨rfl, rfl, q⟩⟩
theorem zs_areturn {v : Value} {E : String} : za_s G cc (some (.object E)) hh hx ini fr lk mc ms K nx .areturn 1 pc ls [v] h c s = (za_rf v ∧ c ≤ mc ∧ s ≤ ms ∧ K (.inl (some v)) h) := propext ⟨fun q => q.2, fun q => ⟨rfl, q⟩⟩
theorem zs_areturnA {v : Value} {t : FieldType} : za_s G cc (some (.array t)) hh hx ini fr lk mc ms K nx .areturn 1 pc ls [v] h c s = (za_rf v ∧ c ≤ mc ∧ s ≤ ms ∧ K (.inl (some v)) h) := propext ⟨fun q => q.2, fun q => ⟨rfl, q⟩⟩
/-- a call's turn: by the callee's contract -/
theorem za_call {M : za_M} {as rest : List Value} {mc' ms' : Nat} (hc : c + mc' ≤ mc) (hs : s + ms' ≤ ms) (hP : za_P G M as h mc' ms' (fun o h' => match o with
    | .inl v => nx (pc + 3) ls (v.toList ++ rest) h' (c + mc') (s + ms')
    | .inr k => za_ex hh hx mc ms K nx pc ls k h' (c + mc') (s + ms'))) : za_cl G hh hx mc ms K nx M as pc ls rest h c s := ⟨mc', ms', hc, hs, hP⟩
theorem za_ex0 {k : Nat} : za_ex [] hx mc ms K nx pc ls k h c s = (c ≤ mc ∧ s ≤ ms ∧ K (.inr k) h) := rfl
end ZH
/-- a method by its body, its parts named -/
theorem za_m {G : za_G} {y : MethodName} {cc : ByteArray} {nL : Nat} {ret : Option FieldType} {hh : List (Nat × Nat × Nat × Nat)} {fr : Nat} {lk : za_LK} {hx : List Nat} {ini : Bool} {cuts : Nat → Bool} {as : List Value} {h : za_H} {mc ms : Nat} {K : za_O → za_H → Prop} (F : za_F G) (hlk : za_lk y.cls lk) (hht : za_ht y.cls hh hx) (hini : ini = true → y.name = "<init>") (hpl : plainName y.cls = true) (has : as.length ≤ nL) (hcat : ∀ v ∈ as, v.category = 1)
    (body : ∀ w : za_N, (∀ (n pc : Nat) (ls : za_L) (st : List Value) (h : za_H) (c s : Nat), za_f G cc ret hh hx ini fr lk mc ms K cuts w n pc ls st h c s → w pc ls st h c s) → w 0 (as.map some ++ List.replicate (nL - as.length) none) [] h 0 0) : za_P G (y, cc, nL, ret, hh, fr) as h mc ms K :=
  za_meth (M := (y, cc, nL, ret, hh, fr)) F hlk hht hini hpl has hcat body
end
section
/-! PRINTED BY wip/whole/gen/gen2.py: methods and links -/
theorem tm_1 {w : Jvm.Cond} (h : w ∈ tables_1_1) : w ∈ lw_tbl := List.mem_append_right _ (show w ∈ tables_1_1 ++ (tables_1_2 ++ tables_1_3) from List.mem_append_left _ h)
theorem tm_2 {w : Jvm.Cond} (h : w ∈ tables_1_2) : w ∈ lw_tbl := List.mem_append_right _ (show w ∈ tables_1_1 ++ (tables_1_2 ++ tables_1_3) from List.mem_append_right _ (List.mem_append_left _ h))
theorem tm_3 {w : Jvm.Cond} (h : w ∈ tables_1_3) : w ∈ lw_tbl := List.mem_append_right _ (show w ∈ tables_1_1 ++ (tables_1_2 ++ tables_1_3) from List.mem_append_right _ (List.mem_append_right _ (h)))
def za_lu {α : Type} : List (Nat × α) → Nat → Option α
  | [], _ => none
  | e :: t, i => if e.1 = i then some e.2 else za_lu t i
theorem za_lu_ok {α : Type} {l : List (Nat × α)} {Q : Nat → α → Prop} (h : ∀ e ∈ l, Q e.1 e.2) : ∀ i q, za_lu l i = some q → Q i q := by
  intro i q hq
  induction l with
  | nil => cases hq
  | cons e t ih =>
    unfold za_lu at hq
    split at hq
    · rename_i he
      cases hq
      rw [← he]
      exact h e List.mem_cons_self
    · exact ih (fun x hx => h x (List.mem_cons_of_mem _ hx)) hq
theorem za_nil {α : Type} {Q : α → Prop} : ∀ e ∈ ([] : List α), Q e := fun _ h => by cases h
theorem za_cons {α : Type} {Q : α → Prop} {a : α} {l : List α} (h : Q a) (t : ∀ e ∈ l, Q e) : ∀ e ∈ a :: l, Q e := List.forall_mem_cons.mpr ⟨h, t⟩
theorem uwJx4a65c : ∀ w ∈ u_ws RJx4a65c TJx4a65c 3, w ∈ lw_tbl := by decide +kernel
theorem uwX0 : ∀ w ∈ u_ws RX0 TX0 3, w ∈ lw_tbl := by decide +kernel
theorem uwX3 : ∀ w ∈ u_ws RX3 TX3 5, w ∈ lw_tbl := by decide +kernel
theorem uwX4 : ∀ w ∈ u_ws RX4 TX4 5, w ∈ lw_tbl := by decide +kernel
theorem uwX7 : ∀ w ∈ u_ws RX7 TX7 10, w ∈ lw_tbl := by decide +kernel
abbrev mX7_init : za_M := (yX7_init, cX7_init, 1, none, [], 4)
theorem mkX7_init : za_mk mX7_init 0 := ⟨(tm_1 (List.mem_of_getElem? (i := 24) (by decide +kernel))), (tm_1 (List.mem_of_getElem? (i := 1) (by decide +kernel))), ⟨by decide +kernel, by decide +kernel⟩, by decide +kernel, by decide⟩
abbrev mX7_talk : za_M := (yX7_talk, cX7_talk, 2, (some .int), [], 8)
theorem mkX7_talk : za_mk mX7_talk 1 := ⟨(tm_2 (List.mem_of_getElem? (i := 189) (by decide +kernel))), (tm_1 (List.mem_of_getElem? (i := 1) (by decide +kernel))), ⟨by decide +kernel, by decide +kernel⟩, by decide +kernel, by decide⟩
abbrev mX7_music : za_M := (yX7_music, cX7_music, 3, (some .int), [], 8)
theorem mkX7_music : za_mk mX7_music 2 := ⟨(tm_2 (List.mem_of_getElem? (i := 226) (by decide +kernel))), (tm_1 (List.mem_of_getElem? (i := 1) (by decide +kernel))), ⟨by decide +kernel, by decide +kernel⟩, by decide +kernel, by decide⟩
abbrev mX7_slot : za_M := (yX7_slot, cX7_slot, 2, (some .int), [], 8)
theorem mkX7_slot : za_mk mX7_slot 1 := ⟨(tm_2 (List.mem_of_getElem? (i := 235) (by decide +kernel))), (tm_1 (List.mem_of_getElem? (i := 1) (by decide +kernel))), ⟨by decide +kernel, by decide +kernel⟩, by decide +kernel, by decide⟩
abbrev mX7_item : za_M := (yX7_item, cX7_item, 4, (some .int), [], 8)
theorem mkX7_item : za_mk mX7_item 2 := ⟨(tm_1 (List.mem_of_getElem? (i := 88) (by decide +kernel))), (tm_1 (List.mem_of_getElem? (i := 1) (by decide +kernel))), ⟨by decide +kernel, by decide +kernel⟩, by decide +kernel, by decide⟩
abbrev mX7_cut : za_M := (yX7_cut, cX7_cut, 6, (some .int), [], 8)
theorem mkX7_cut : za_mk mX7_cut 2 := ⟨(tm_3 (List.mem_of_getElem? (i := 14) (by decide +kernel))), (tm_1 (List.mem_of_getElem? (i := 1) (by decide +kernel))), ⟨by decide +kernel, by decide +kernel⟩, by decide +kernel, by decide⟩
abbrev mX7_withdraw : za_M := (yX7_withdraw, cX7_withdraw, 3, none, [], 8)
theorem mkX7_withdraw : za_mk mX7_withdraw 1 := ⟨(tm_2 (List.mem_of_getElem? (i := 89) (by decide +kernel))), (tm_1 (List.mem_of_getElem? (i := 1) (by decide +kernel))), ⟨by decide +kernel, by decide +kernel⟩, by decide +kernel, by decide⟩
abbrev mX7_songOut : za_M := (yX7_songOut, cX7_songOut, 6, (some .int), [], 8)
theorem mkX7_songOut : za_mk mX7_songOut 1 := ⟨(tm_3 (List.mem_of_getElem? (i := 22) (by decide +kernel))), (tm_1 (List.mem_of_getElem? (i := 1) (by decide +kernel))), ⟨by decide +kernel, by decide +kernel⟩, by decide +kernel, by decide⟩
abbrev mX7_pass : za_M := (yX7_pass, cX7_pass, 3, (some .int), [], 8)
theorem mkX7_pass : za_mk mX7_pass 1 := ⟨(tm_2 (List.mem_of_getElem? (i := 99) (by decide +kernel))), (tm_1 (List.mem_of_getElem? (i := 1) (by decide +kernel))), ⟨by decide +kernel, by decide +kernel⟩, by decide +kernel, by decide⟩
abbrev mX7_app : za_M := (yX7_app, cX7_app, 2, (some .int), [], 7)
theorem mkX7_app : za_mk mX7_app 1 := ⟨(tm_2 (List.mem_of_getElem? (i := 109) (by decide +kernel))), (tm_1 (List.mem_of_getElem? (i := 1) (by decide +kernel))), ⟨by decide +kernel, by decide +kernel⟩, by decide +kernel, by decide⟩
abbrev mX7_poll : za_M := (yX7_poll, cX7_poll, 6, (some .int), [], 7)
theorem mkX7_poll : za_mk mX7_poll 1 := ⟨(tm_2 (List.mem_of_getElem? (i := 135) (by decide +kernel))), (tm_1 (List.mem_of_getElem? (i := 1) (by decide +kernel))), ⟨by decide +kernel, by decide +kernel⟩, by decide +kernel, by decide⟩
abbrev mX7_hour : za_M := (yX7_hour, cX7_hour, 1, (some .int), [], 0)
theorem mkX7_hour : za_mk mX7_hour 0 := ⟨(tm_2 (List.mem_of_getElem? (i := 152) (by decide +kernel))), (tm_1 (List.mem_of_getElem? (i := 1) (by decide +kernel))), ⟨by decide +kernel, by decide +kernel⟩, by decide +kernel, by decide⟩
abbrev mX7_ofItem : za_M := (yX7_ofItem, cX7_ofItem, 4, (some .int), [], 7)
theorem mkX7_ofItem : za_mk mX7_ofItem 2 := ⟨(tm_2 (List.mem_of_getElem? (i := 156) (by decide +kernel))), (tm_1 (List.mem_of_getElem? (i := 1) (by decide +kernel))), ⟨by decide +kernel, by decide +kernel⟩, by decide +kernel, by decide⟩
abbrev mX7_ofPart : za_M := (yX7_ofPart, cX7_ofPart, 5, (some .int), [], 7)
theorem mkX7_ofPart : za_mk mX7_ofPart 3 := ⟨(tm_3 (List.mem_of_getElem? (i := 3) (by decide +kernel))), (tm_1 (List.mem_of_getElem? (i := 1) (by decide +kernel))), ⟨by decide +kernel, by decide +kernel⟩, by decide +kernel, by decide⟩
abbrev mX7_told : za_M := (yX7_told, cX7_told, 4, (some .int), [], 7)
theorem mkX7_told : za_mk mX7_told 2 := ⟨(tm_2 (List.mem_of_getElem? (i := 170) (by decide +kernel))), (tm_1 (List.mem_of_getElem? (i := 1) (by decide +kernel))), ⟨by decide +kernel, by decide +kernel⟩, by decide +kernel, by decide⟩
abbrev mX7_isIn : za_M := (yX7_isIn, cX7_isIn, 3, (some .boolean), [], 0)
theorem mkX7_isIn : za_mk mX7_isIn 3 := ⟨(tm_1 (List.mem_of_getElem? (i := 162) (by decide +kernel))), (tm_1 (List.mem_of_getElem? (i := 1) (by decide +kernel))), ⟨by decide +kernel, by decide +kernel⟩, by decide +kernel, by decide⟩
abbrev mX7_hasBit : za_M := (yX7_hasBit, cX7_hasBit, 2, (some .boolean), [], 0)
theorem mkX7_hasBit : za_mk mX7_hasBit 2 := ⟨(tm_1 (List.mem_of_getElem? (i := 208) (by decide +kernel))), (tm_1 (List.mem_of_getElem? (i := 1) (by decide +kernel))), ⟨by decide +kernel, by decide +kernel⟩, by decide +kernel, by decide⟩
abbrev mX7_withBit : za_M := (yX7_withBit, cX7_withBit, 2, (some .int), [], 0)
theorem mkX7_withBit : za_mk mX7_withBit 2 := ⟨(tm_2 (List.mem_of_getElem? (i := 148) (by decide +kernel))), (tm_1 (List.mem_of_getElem? (i := 1) (by decide +kernel))), ⟨by decide +kernel, by decide +kernel⟩, by decide +kernel, by decide⟩
abbrev mX7_needShow : za_M := (yX7_needShow, cX7_needShow, 1, none, [], 6)
theorem mkX7_needShow : za_mk mX7_needShow 1 := ⟨(tm_1 (List.mem_of_getElem? (i := 91) (by decide +kernel))), (tm_1 (List.mem_of_getElem? (i := 1) (by decide +kernel))), ⟨by decide +kernel, by decide +kernel⟩, by decide +kernel, by decide⟩
abbrev mX7_needSong : za_M := (yX7_needSong, cX7_needSong, 1, none, [], 6)
theorem mkX7_needSong : za_mk mX7_needSong 1 := ⟨(tm_2 (List.mem_of_getElem? (i := 229) (by decide +kernel))), (tm_1 (List.mem_of_getElem? (i := 1) (by decide +kernel))), ⟨by decide +kernel, by decide +kernel⟩, by decide +kernel, by decide⟩
abbrev mX7_itemAt : za_M := (yX7_itemAt, cX7_itemAt, 2, (some (.object "FeedTower$Item")), [], 6)
theorem mkX7_itemAt : za_mk mX7_itemAt 1 := ⟨(tm_2 (List.mem_of_getElem? (i := 93) (by decide +kernel))), (tm_1 (List.mem_of_getElem? (i := 1) (by decide +kernel))), ⟨by decide +kernel, by decide +kernel⟩, by decide +kernel, by decide⟩
abbrev mX7_appAt : za_M := (yX7_appAt, cX7_appAt, 2, (some (.object "FeedTower$App")), [], 6)
theorem mkX7_appAt : za_mk mX7_appAt 1 := ⟨(tm_2 (List.mem_of_getElem? (i := 139) (by decide +kernel))), (tm_1 (List.mem_of_getElem? (i := 1) (by decide +kernel))), ⟨by decide +kernel, by decide +kernel⟩, by decide +kernel, by decide⟩
abbrev mX7_addToDraft : za_M := (yX7_addToDraft, cX7_addToDraft, 2, (some .int), [], 7)
theorem mkX7_addToDraft : za_mk mX7_addToDraft 1 := ⟨(tm_2 (List.mem_of_getElem? (i := 221) (by decide +kernel))), (tm_1 (List.mem_of_getElem? (i := 1) (by decide +kernel))), ⟨by decide +kernel, by decide +kernel⟩, by decide +kernel, by decide⟩
abbrev mX7_isOut : za_M := (yX7_isOut, cX7_isOut, 2, (some .boolean), [], 1)
theorem mkX7_isOut : za_mk mX7_isOut 1 := ⟨(tm_1 (List.mem_of_getElem? (i := 205) (by decide +kernel))), (tm_1 (List.mem_of_getElem? (i := 1) (by decide +kernel))), ⟨by decide +kernel, by decide +kernel⟩, by decide +kernel, by decide⟩
abbrev mX7_isDraftOfUse : za_M := (yX7_isDraftOfUse, cX7_isDraftOfUse, 2, (some .boolean), [], 3)
theorem mkX7_isDraftOfUse : za_mk mX7_isDraftOfUse 0 := ⟨(tm_1 (List.mem_of_getElem? (i := 182) (by decide +kernel))), (tm_1 (List.mem_of_getElem? (i := 1) (by decide +kernel))), ⟨by decide +kernel, by decide +kernel⟩, by decide +kernel, by decide⟩
abbrev mX7_cutWhatIsOut : za_M := (yX7_cutWhatIsOut, cX7_cutWhatIsOut, 5, (some .int), [], 4)
theorem mkX7_cutWhatIsOut : za_mk mX7_cutWhatIsOut 1 := ⟨(tm_2 (List.mem_of_getElem? (i := 70) (by decide +kernel))), (tm_1 (List.mem_of_getElem? (i := 1) (by decide +kernel))), ⟨by decide +kernel, by decide +kernel⟩, by decide +kernel, by decide⟩
abbrev mX7_isReleased : za_M := (yX7_isReleased, cX7_isReleased, 2, (some .boolean), [], 0)
theorem mkX7_isReleased : za_mk mX7_isReleased 1 := ⟨(tm_2 (List.mem_of_getElem? (i := 85) (by decide +kernel))), (tm_1 (List.mem_of_getElem? (i := 1) (by decide +kernel))), ⟨by decide +kernel, by decide +kernel⟩, by decide +kernel, by decide⟩
abbrev mX7_noteChange : za_M := (yX7_noteChange, cX7_noteChange, 2, none, [], 7)
theorem mkX7_noteChange : za_mk mX7_noteChange 1 := ⟨(tm_2 (List.mem_of_getElem? (i := 81) (by decide +kernel))), (tm_1 (List.mem_of_getElem? (i := 1) (by decide +kernel))), ⟨by decide +kernel, by decide +kernel⟩, by decide +kernel, by decide⟩
abbrev mX7_releaseItemsOfThisHour : za_M := (yX7_releaseItemsOfThisHour, cX7_releaseItemsOfThisHour, 3, none, [], 7)
theorem mkX7_releaseItemsOfThisHour : za_mk mX7_releaseItemsOfThisHour 0 := ⟨(tm_2 (List.mem_of_getElem? (i := 105) (by decide +kernel))), (tm_1 (List.mem_of_getElem? (i := 1) (by decide +kernel))), ⟨by decide +kernel, by decide +kernel⟩, by decide +kernel, by decide⟩
abbrev mX7_downloadsOf : za_M := (yX7_downloadsOf, cX7_downloadsOf, 4, (some .int), [], 3)
theorem mkX7_downloadsOf : za_mk mX7_downloadsOf 1 := ⟨(tm_2 (List.mem_of_getElem? (i := 164) (by decide +kernel))), (tm_1 (List.mem_of_getElem? (i := 1) (by decide +kernel))), ⟨by decide +kernel, by decide +kernel⟩, by decide +kernel, by decide⟩
abbrev mX0_init : za_M := (yX0_init, cX0_init, 2, none, [], 4)
theorem mkX0_init : za_mk mX0_init 1 := ⟨(tm_2 (List.mem_of_getElem? (i := 115) (by decide +kernel))), (tm_1 (List.mem_of_getElem? (i := 10) (by decide +kernel))), ⟨by decide +kernel, by decide +kernel⟩, by decide +kernel, by decide⟩
abbrev mX3_init : za_M := (yX3_init, cX3_init, 5, none, [], 1)
theorem mkX3_init : za_mk mX3_init 4 := ⟨(tm_1 (List.mem_of_getElem? (i := 229) (by decide +kernel))), (tm_1 (List.mem_of_getElem? (i := 19) (by decide +kernel))), ⟨by decide +kernel, by decide +kernel⟩, by decide +kernel, by decide⟩
abbrev mX3_partAt : za_M := (yX3_partAt, cX3_partAt, 2, (some (.object "FeedTower$Part")), [], 6)
theorem mkX3_partAt : za_mk mX3_partAt 1 := ⟨(tm_3 (List.mem_of_getElem? (i := 7) (by decide +kernel))), (tm_1 (List.mem_of_getElem? (i := 19) (by decide +kernel))), ⟨by decide +kernel, by decide +kernel⟩, by decide +kernel, by decide⟩
abbrev mX3_uncutParts : za_M := (yX3_uncutParts, cX3_uncutParts, 3, (some .int), [], 3)
theorem mkX3_uncutParts : za_mk mX3_uncutParts 0 := ⟨(tm_2 (List.mem_of_getElem? (i := 74) (by decide +kernel))), (tm_1 (List.mem_of_getElem? (i := 19) (by decide +kernel))), ⟨by decide +kernel, by decide +kernel⟩, by decide +kernel, by decide⟩
abbrev mX3_uncutSeconds : za_M := (yX3_uncutSeconds, cX3_uncutSeconds, 4, (some .int), [], 3)
theorem mkX3_uncutSeconds : za_mk mX3_uncutSeconds 0 := ⟨(tm_2 (List.mem_of_getElem? (i := 160) (by decide +kernel))), (tm_1 (List.mem_of_getElem? (i := 19) (by decide +kernel))), ⟨by decide +kernel, by decide +kernel⟩, by decide +kernel, by decide⟩
abbrev mX4_init : za_M := (yX4_init, cX4_init, 4, none, [], 1)
theorem mkX4_init : za_mk mX4_init 3 := ⟨(tm_2 (List.mem_of_getElem? (i := 194) (by decide +kernel))), (tm_1 (List.mem_of_getElem? (i := 18) (by decide +kernel))), ⟨by decide +kernel, by decide +kernel⟩, by decide +kernel, by decide⟩
abbrev mJ9_max_7cf53 : za_M := (yJ9_max_7cf53, cJ9_max_7cf53, 2, (some .int), [], 0)
theorem mkJ9_max_7cf53 : za_mk mJ9_max_7cf53 2 := ⟨(tm_2 (List.mem_of_getElem? (i := 33) (by decide +kernel))), (tm_1 (List.mem_of_getElem? (i := 12) (by decide +kernel))), ⟨by decide +kernel, by decide +kernel⟩, by decide +kernel, by decide⟩
abbrev mJ9_min_7cf53 : za_M := (yJ9_min_7cf53, cJ9_min_7cf53, 2, (some .int), [], 0)
theorem mkJ9_min_7cf53 : za_mk mJ9_min_7cf53 2 := ⟨(tm_2 (List.mem_of_getElem? (i := 61) (by decide +kernel))), (tm_1 (List.mem_of_getElem? (i := 12) (by decide +kernel))), ⟨by decide +kernel, by decide +kernel⟩, by decide +kernel, by decide⟩
abbrev mJxa1e45_init_da8c8 : za_M := (yJxa1e45_init_da8c8, cJxa1e45_init_da8c8, 1, none, [], 1)
theorem mkJxa1e45_init_da8c8 : za_mk mJxa1e45_init_da8c8 0 := ⟨(tm_1 (List.mem_of_getElem? (i := 38) (by decide +kernel))), (tm_1 (List.mem_of_getElem? (i := 2) (by decide +kernel))), ⟨by decide +kernel, by decide +kernel⟩, by decide +kernel, by decide⟩
abbrev mJxc12de_init_da8c8 : za_M := (yJxc12de_init_da8c8, cJxc12de_init_da8c8, 1, none, [], 2)
theorem mkJxc12de_init_da8c8 : za_mk mJxc12de_init_da8c8 0 := ⟨(tm_1 (List.mem_of_getElem? (i := 35) (by decide +kernel))), (tm_1 (List.mem_of_getElem? (i := 3) (by decide +kernel))), ⟨by decide +kernel, by decide +kernel⟩, by decide +kernel, by decide⟩
abbrev mJx4a65c_init_da8c8 : za_M := (yJx4a65c_init_da8c8, cJx4a65c_init_da8c8, 1, none, [], 3)
theorem mkJx4a65c_init_da8c8 : za_mk mJx4a65c_init_da8c8 0 := ⟨(tm_1 (List.mem_of_getElem? (i := 32) (by decide +kernel))), (tm_1 (List.mem_of_getElem? (i := 4) (by decide +kernel))), ⟨by decide +kernel, by decide +kernel⟩, by decide +kernel, by decide⟩
abbrev mJx4a65c_grow_92f84 : za_M := (yJx4a65c_grow_92f84, cJx4a65c_grow_92f84, 4, (some (.array (.object "java/lang/Object"))), [], 3)
theorem mkJx4a65c_grow_92f84 : za_mk mJx4a65c_grow_92f84 1 := ⟨(tm_2 (List.mem_of_getElem? (i := 27) (by decide +kernel))), (tm_1 (List.mem_of_getElem? (i := 4) (by decide +kernel))), ⟨by decide +kernel, by decide +kernel⟩, by decide +kernel, by decide⟩
abbrev mJx4a65c_grow_d5877 : za_M := (yJx4a65c_grow_d5877, cJx4a65c_grow_d5877, 1, (some (.array (.object "java/lang/Object"))), [], 4)
theorem mkJx4a65c_grow_d5877 : za_mk mJx4a65c_grow_d5877 0 := ⟨(tm_2 (List.mem_of_getElem? (i := 23) (by decide +kernel))), (tm_1 (List.mem_of_getElem? (i := 4) (by decide +kernel))), ⟨by decide +kernel, by decide +kernel⟩, by decide +kernel, by decide⟩
abbrev mJx4a65c_size_8abf5 : za_M := (yJx4a65c_size_8abf5, cJx4a65c_size_8abf5, 1, (some .int), [], 0)
theorem mkJx4a65c_size_8abf5 : za_mk mJx4a65c_size_8abf5 0 := ⟨(tm_1 (List.mem_of_getElem? (i := 186) (by decide +kernel))), (tm_1 (List.mem_of_getElem? (i := 4) (by decide +kernel))), ⟨by decide +kernel, by decide +kernel⟩, by decide +kernel, by decide⟩
abbrev mJx4a65c_elementData_915e3 : za_M := (yJx4a65c_elementData_915e3, cJx4a65c_elementData_915e3, 2, (some (.object "java/lang/Object")), [], 0)
theorem mkJx4a65c_elementData_915e3 : za_mk mJx4a65c_elementData_915e3 1 := ⟨(tm_1 (List.mem_of_getElem? (i := 200) (by decide +kernel))), (tm_1 (List.mem_of_getElem? (i := 4) (by decide +kernel))), ⟨by decide +kernel, by decide +kernel⟩, by decide +kernel, by decide⟩
abbrev mJx4a65c_get_915e3 : za_M := (yJx4a65c_get_915e3, cJx4a65c_get_915e3, 2, (some (.object "java/lang/Object")), [], 2)
theorem mkJx4a65c_get_915e3 : za_mk mJx4a65c_get_915e3 1 := ⟨(tm_1 (List.mem_of_getElem? (i := 190) (by decide +kernel))), (tm_1 (List.mem_of_getElem? (i := 4) (by decide +kernel))), ⟨by decide +kernel, by decide +kernel⟩, by decide +kernel, by decide⟩
abbrev mJx4a65c_add_72be8 : za_M := (yJx4a65c_add_72be8, cJx4a65c_add_72be8, 4, none, [], 5)
theorem mkJx4a65c_add_72be8 : za_mk mJx4a65c_add_72be8 3 := ⟨(tm_2 (List.mem_of_getElem? (i := 19) (by decide +kernel))), (tm_1 (List.mem_of_getElem? (i := 4) (by decide +kernel))), ⟨by decide +kernel, by decide +kernel⟩, by decide +kernel, by decide⟩
abbrev mJx4a65c_add_9ea2d : za_M := (yJx4a65c_add_9ea2d, cJx4a65c_add_9ea2d, 2, (some .boolean), [], 6)
theorem mkJx4a65c_add_9ea2d : za_mk mJx4a65c_add_9ea2d 1 := ⟨(tm_2 (List.mem_of_getElem? (i := 15) (by decide +kernel))), (tm_1 (List.mem_of_getElem? (i := 4) (by decide +kernel))), ⟨by decide +kernel, by decide +kernel⟩, by decide +kernel, by decide⟩
abbrev mJx4a65c_clear_da8c8 : za_M := (yJx4a65c_clear_da8c8, cJx4a65c_clear_da8c8, 4, none, [], 0)
theorem mkJx4a65c_clear_da8c8 : za_mk mJx4a65c_clear_da8c8 0 := ⟨(tm_2 (List.mem_of_getElem? (i := 144) (by decide +kernel))), (tm_1 (List.mem_of_getElem? (i := 4) (by decide +kernel))), ⟨by decide +kernel, by decide +kernel⟩, by decide +kernel, by decide⟩
abbrev mJ7_copyOf_1904c : za_M := (yJ7_copyOf_1904c, cJ7_copyOf_1904c, 2, (some (.array (.object "java/lang/Object"))), [], 2)
theorem mkJ7_copyOf_1904c : za_mk mJ7_copyOf_1904c 2 := ⟨(tm_2 (List.mem_of_getElem? (i := 40) (by decide +kernel))), (tm_1 (List.mem_of_getElem? (i := 13) (by decide +kernel))), ⟨by decide +kernel, by decide +kernel⟩, by decide +kernel, by decide⟩
abbrev mJ7_copyOf_6403c : za_M := (yJ7_copyOf_6403c, cJ7_copyOf_6403c, 4, (some (.array (.object "java/lang/Object"))), [], 1)
theorem mkJ7_copyOf_6403c : za_mk mJ7_copyOf_6403c 3 := ⟨(tm_2 (List.mem_of_getElem? (i := 55) (by decide +kernel))), (tm_1 (List.mem_of_getElem? (i := 13) (by decide +kernel))), ⟨by decide +kernel, by decide +kernel⟩, by decide +kernel, by decide⟩
abbrev mJ15_checkIndex_7cf53 : za_M := (yJ15_checkIndex_7cf53, cJ15_checkIndex_7cf53, 2, (some .int), [], 1)
theorem mkJ15_checkIndex_7cf53 : za_mk mJ15_checkIndex_7cf53 2 := ⟨(tm_1 (List.mem_of_getElem? (i := 193) (by decide +kernel))), (tm_1 (List.mem_of_getElem? (i := 15) (by decide +kernel))), ⟨by decide +kernel, by decide +kernel⟩, by decide +kernel, by decide⟩
abbrev mJ8_newLength_cabcc : za_M := (yJ8_newLength_cabcc, cJ8_newLength_cabcc, 4, (some .int), [], 1)
theorem mkJ8_newLength_cabcc : za_mk mJ8_newLength_cabcc 3 := ⟨(tm_2 (List.mem_of_getElem? (i := 30) (by decide +kernel))), (tm_1 (List.mem_of_getElem? (i := 11) (by decide +kernel))), ⟨by decide +kernel, by decide +kernel⟩, by decide +kernel, by decide⟩
abbrev mJ8_hugeLength_7cf53 : za_M := (yJ8_hugeLength_7cf53, cJ8_hugeLength_7cf53, 3, (some .int), [], 0)
theorem mkJ8_hugeLength_7cf53 : za_mk mJ8_hugeLength_7cf53 2 := ⟨(tm_2 (List.mem_of_getElem? (i := 37) (by decide +kernel))), (tm_1 (List.mem_of_getElem? (i := 11) (by decide +kernel))), ⟨by decide +kernel, by decide +kernel⟩, by decide +kernel, by decide⟩
abbrev mJ3_checkIndex_8e157 : za_M := (yJ3_checkIndex_8e157, cJ3_checkIndex_8e157, 3, (some .int), [], 0)
theorem mkJ3_checkIndex_8e157 : za_mk mJ3_checkIndex_8e157 3 := ⟨(tm_1 (List.mem_of_getElem? (i := 196) (by decide +kernel))), (tm_1 (List.mem_of_getElem? (i := 16) (by decide +kernel))), ⟨by decide +kernel, by decide +kernel⟩, by decide +kernel, by decide⟩
abbrev mL_told : za_M := (yL_told, cL_told, 2, (some .int), [], 0)
theorem mkL_told : za_mk mL_told 2 := ⟨(tm_2 (List.mem_of_getElem? (i := 174) (by decide +kernel))), (tm_1 (List.mem_of_getElem? (i := 0) (by decide +kernel))), ⟨by decide +kernel, by decide +kernel⟩, by decide +kernel, by decide⟩
abbrev mL_note : za_M := (yL_note, cL_note, 7, none, [], 8)
theorem mkL_note : za_mk mL_note 4 := ⟨(tm_2 (List.mem_of_getElem? (i := 179) (by decide +kernel))), (tm_1 (List.mem_of_getElem? (i := 0) (by decide +kernel))), ⟨by decide +kernel, by decide +kernel⟩, by decide +kernel, by decide⟩
abbrev mL_isPolled : za_M := (yL_isPolled, cL_isPolled, 6, (some .boolean), [], 8)
theorem mkL_isPolled : za_mk mL_isPolled 4 := ⟨(tm_2 (List.mem_of_getElem? (i := 182) (by decide +kernel))), (tm_1 (List.mem_of_getElem? (i := 0) (by decide +kernel))), ⟨by decide +kernel, by decide +kernel⟩, by decide +kernel, by decide⟩
abbrev mL_draft : za_M := (yL_draft, cL_draft, 6, none, [], 9)
theorem mkL_draft : za_mk mL_draft 3 := ⟨(tm_2 (List.mem_of_getElem? (i := 185) (by decide +kernel))), (tm_1 (List.mem_of_getElem? (i := 0) (by decide +kernel))), ⟨by decide +kernel, by decide +kernel⟩, by decide +kernel, by decide⟩
abbrev mL_cuts : za_M := (yL_cuts, cL_cuts, 8, (some .boolean), [], 9)
theorem mkL_cuts : za_mk mL_cuts 5 := ⟨(tm_2 (List.mem_of_getElem? (i := 239) (by decide +kernel))), (tm_1 (List.mem_of_getElem? (i := 0) (by decide +kernel))), ⟨by decide +kernel, by decide +kernel⟩, by decide +kernel, by decide⟩
abbrev mL_goesOut : za_M := (yL_goesOut, cL_goesOut, 11, (some .boolean), [], 9)
theorem mkL_goesOut : za_mk mL_goesOut 5 := ⟨(tm_3 (List.mem_of_getElem? (i := 18) (by decide +kernel))), (tm_1 (List.mem_of_getElem? (i := 0) (by decide +kernel))), ⟨by decide +kernel, by decide +kernel⟩, by decide +kernel, by decide⟩
/-! links of each class -/
end
section
def flJ9 : List (Nat × (Nat × Nat × FieldType × Nat)) := []
def mtJ9 : List (Nat × (Nat × Nat × Nat × Nat × za_M)) := []
def nwJ9 : List (Nat × (Nat × List Value)) := []
def thJ9 : List (Nat × (Nat × Nat)) := []
def ckJ9 : List (Nat × Nat) := []
def cnJ9 : List (Nat × Int32) := []
def lkJ9 : za_LK := (za_lu flJ9, za_lu mtJ9, za_lu nwJ9, za_lu thJ9, (fun i => ([] : List Nat).elem i), za_lu ckJ9, za_lu cnJ9)
theorem okJ9 : za_lk RJ9 lkJ9 := ⟨za_lu_ok (l := flJ9) (Q := fun i q => za_fl RJ9 i q.1 q.2.1 q.2.2.1 q.2.2.2) za_nil, za_lu_ok (l := mtJ9) (Q := za_okm RJ9) za_nil, za_lu_ok (l := nwJ9) (Q := fun i q => za_nl RJ9 i q.1 q.2) za_nil, fun i q j h hj => za_lu_ok (l := thJ9) (Q := fun i q => ∀ j, ([] : List Nat).elem j = true → za_tl RJ9 i j q.2 q.1) za_nil i q h j hj, za_lu_ok (l := ckJ9) (Q := fun i ci => ∃ r, vwCl[ci]? = some r ∧ Jvm.Cond.classLink RJ9 i r.1 ∈ lw_tbl) za_nil, za_lu_ok (l := cnJ9) (Q := fun i v => Jvm.Cond.constant RJ9 i v ∈ lw_tbl) za_nil⟩
theorem lmJxa1e45_1 : za_okm RJxa1e45 1 (4, 0, 0, 0, mX7_isIn) := ⟨rfl, (tm_1 (List.mem_of_getElem? (i := 39) (by decide +kernel))), (tm_1 (List.mem_of_getElem? (i := 26) (by decide +kernel))), (tm_1 (List.mem_of_getElem? (i := 27) (by decide +kernel)))⟩
def flJxa1e45 : List (Nat × (Nat × Nat × FieldType × Nat)) := []
def mtJxa1e45 : List (Nat × (Nat × Nat × Nat × Nat × za_M)) := [(1, (4, 0, 0, 0, mX7_isIn))]
def nwJxa1e45 : List (Nat × (Nat × List Value)) := []
def thJxa1e45 : List (Nat × (Nat × Nat)) := []
def ckJxa1e45 : List (Nat × Nat) := []
def cnJxa1e45 : List (Nat × Int32) := []
def lkJxa1e45 : za_LK := (za_lu flJxa1e45, za_lu mtJxa1e45, za_lu nwJxa1e45, za_lu thJxa1e45, (fun i => ([] : List Nat).elem i), za_lu ckJxa1e45, za_lu cnJxa1e45)
theorem okJxa1e45 : za_lk RJxa1e45 lkJxa1e45 := ⟨za_lu_ok (l := flJxa1e45) (Q := fun i q => za_fl RJxa1e45 i q.1 q.2.1 q.2.2.1 q.2.2.2) za_nil, za_lu_ok (l := mtJxa1e45) (Q := za_okm RJxa1e45) (za_cons lmJxa1e45_1 za_nil), za_lu_ok (l := nwJxa1e45) (Q := fun i q => za_nl RJxa1e45 i q.1 q.2) za_nil, fun i q j h hj => za_lu_ok (l := thJxa1e45) (Q := fun i q => ∀ j, ([] : List Nat).elem j = true → za_tl RJxa1e45 i j q.2 q.1) za_nil i q h j hj, za_lu_ok (l := ckJxa1e45) (Q := fun i ci => ∃ r, vwCl[ci]? = some r ∧ Jvm.Cond.classLink RJxa1e45 i r.1 ∈ lw_tbl) za_nil, za_lu_ok (l := cnJxa1e45) (Q := fun i v => Jvm.Cond.constant RJxa1e45 i v ∈ lw_tbl) za_nil⟩
theorem uJxa1e45_m1 : za_LK.mt lkJxa1e45 1 = some (4, 0, 0, 0, mX7_isIn) := rfl
theorem lmJxc12de_1 : za_okm RJxc12de 1 (2, 0, 0, 1, mJxa1e45_init_da8c8) := ⟨rfl, mkJxa1e45_init_da8c8, rfl, rfl, rfl, (tm_1 (List.mem_of_getElem? (i := 36) (by decide +kernel))), (tm_1 (List.mem_of_getElem? (i := 37) (by decide +kernel)))⟩
theorem lfJxc12de_7 : za_fl RJxc12de 7 0 0 (.int) 0 := ⟨_, _, _, "java/util/AbstractList", tyJx4a65c, rfl, by decide, (tm_1 (List.mem_of_getElem? (i := 44) (by decide +kernel))), Or.inl rfl, uwJx4a65c, tyJx4a65c_ok, nmJx4a65c, rfl, fun _ => rfl, fun h => by cases h⟩
def flJxc12de : List (Nat × (Nat × Nat × FieldType × Nat)) := [(7, (0, 0, .int, 0))]
def mtJxc12de : List (Nat × (Nat × Nat × Nat × Nat × za_M)) := [(1, (2, 0, 0, 1, mJxa1e45_init_da8c8))]
def nwJxc12de : List (Nat × (Nat × List Value)) := []
def thJxc12de : List (Nat × (Nat × Nat)) := []
def ckJxc12de : List (Nat × Nat) := []
def cnJxc12de : List (Nat × Int32) := []
def lkJxc12de : za_LK := (za_lu flJxc12de, za_lu mtJxc12de, za_lu nwJxc12de, za_lu thJxc12de, (fun i => ([] : List Nat).elem i), za_lu ckJxc12de, za_lu cnJxc12de)
theorem okJxc12de : za_lk RJxc12de lkJxc12de := ⟨za_lu_ok (l := flJxc12de) (Q := fun i q => za_fl RJxc12de i q.1 q.2.1 q.2.2.1 q.2.2.2) (za_cons lfJxc12de_7 za_nil), za_lu_ok (l := mtJxc12de) (Q := za_okm RJxc12de) (za_cons lmJxc12de_1 za_nil), za_lu_ok (l := nwJxc12de) (Q := fun i q => za_nl RJxc12de i q.1 q.2) za_nil, fun i q j h hj => za_lu_ok (l := thJxc12de) (Q := fun i q => ∀ j, ([] : List Nat).elem j = true → za_tl RJxc12de i j q.2 q.1) za_nil i q h j hj, za_lu_ok (l := ckJxc12de) (Q := fun i ci => ∃ r, vwCl[ci]? = some r ∧ Jvm.Cond.classLink RJxc12de i r.1 ∈ lw_tbl) za_nil, za_lu_ok (l := cnJxc12de) (Q := fun i v => Jvm.Cond.constant RJxc12de i v ∈ lw_tbl) za_nil⟩
theorem uJxc12de_f7 : za_LK.fl lkJxc12de 7 = some (0, 0, .int, 0) := rfl
theorem uJxc12de_m1 : za_LK.mt lkJxc12de 1 = some (2, 0, 0, 1, mJxa1e45_init_da8c8) := rfl
theorem lmJx4a65c_1 : za_okm RJx4a65c 1 (2, 0, 0, 2, mJxc12de_init_da8c8) := ⟨rfl, mkJxc12de_init_da8c8, rfl, rfl, rfl, (tm_1 (List.mem_of_getElem? (i := 33) (by decide +kernel))), (tm_1 (List.mem_of_getElem? (i := 34) (by decide +kernel)))⟩
theorem lfJx4a65c_9 : za_fl RJx4a65c 9 0 1 (.array (.object "java/lang/Object")) 0 := ⟨_, _, _, "java/util/ArrayList", tyJx4a65c, rfl, by decide, (tm_1 (List.mem_of_getElem? (i := 42) (by decide +kernel))), Or.inl rfl, uwJx4a65c, tyJx4a65c_ok, nmJx4a65c, rfl, fun _ => rfl, fun h => by cases h⟩
theorem lfJx4a65c_48 : za_fl RJx4a65c 48 0 2 (.int) 0 := ⟨_, _, _, "java/util/ArrayList", tyJx4a65c, rfl, by decide, (tm_1 (List.mem_of_getElem? (i := 43) (by decide +kernel))), Or.inl rfl, uwJx4a65c, tyJx4a65c_ok, nmJx4a65c, rfl, fun _ => rfl, fun h => by cases h⟩
theorem lfJx4a65c_63 : za_fl RJx4a65c 63 0 0 (.int) 0 := ⟨_, _, _, "java/util/ArrayList", tyJx4a65c, rfl, by decide, (tm_1 (List.mem_of_getElem? (i := 45) (by decide +kernel))), Or.inr (tm_1 (List.mem_of_getElem? (i := 46) (by decide +kernel))), uwJx4a65c, tyJx4a65c_ok, nmJx4a65c, rfl, fun _ => rfl, fun h => by cases h⟩
theorem lmJx4a65c_66 : za_okm RJx4a65c 66 (1, 2, 0, 2, mJ7_copyOf_1904c) := ⟨rfl, mkJ7_copyOf_1904c, (tm_2 (List.mem_of_getElem? (i := 38) (by decide +kernel))), (tm_2 (List.mem_of_getElem? (i := 39) (by decide +kernel)))⟩
theorem lmJx4a65c_69 : za_okm RJx4a65c 69 (0, 1, 0, 3, mJx4a65c_grow_92f84) := ⟨rfl, ⟨mkJx4a65c_grow_92f84, rfl, (tm_2 (List.mem_of_getElem? (i := 24) (by decide +kernel))), (tm_2 (List.mem_of_getElem? (i := 26) (by decide +kernel))), (List.mem_of_getElem? (i := 5) (by decide +kernel))⟩, _, rfl, rfl⟩
theorem lmJx4a65c_73 : za_okm RJx4a65c 73 (1, 3, 0, 1, mJ8_newLength_cabcc) := ⟨rfl, mkJ8_newLength_cabcc, (tm_2 (List.mem_of_getElem? (i := 28) (by decide +kernel))), (tm_2 (List.mem_of_getElem? (i := 29) (by decide +kernel)))⟩
theorem lmJx4a65c_79 : za_okm RJx4a65c 79 (5, 2, 0, 0, mX7_isIn) := ⟨rfl, (tm_2 (List.mem_of_getElem? (i := 65) (by decide +kernel))), (tm_2 (List.mem_of_getElem? (i := 32) (by decide +kernel))), (tm_1 (List.mem_of_getElem? (i := 12) (by decide +kernel))), (tm_2 (List.mem_of_getElem? (i := 33) (by decide +kernel)))⟩
theorem lmJx4a65c_118 : za_okm RJx4a65c 118 (1, 2, 0, 1, mJ15_checkIndex_7cf53) := ⟨rfl, mkJ15_checkIndex_7cf53, (tm_1 (List.mem_of_getElem? (i := 191) (by decide +kernel))), (tm_1 (List.mem_of_getElem? (i := 192) (by decide +kernel)))⟩
theorem lmJx4a65c_123 : za_okm RJx4a65c 123 (0, 1, 0, 0, mJx4a65c_elementData_915e3) := ⟨rfl, ⟨mkJx4a65c_elementData_915e3, rfl, (tm_1 (List.mem_of_getElem? (i := 197) (by decide +kernel))), (tm_1 (List.mem_of_getElem? (i := 198) (by decide +kernel))), (tm_1 (List.mem_of_getElem? (i := 199) (by decide +kernel)))⟩, _, rfl, rfl⟩
theorem lmJx4a65c_129 : za_okm RJx4a65c 129 (0, 0, 0, 4, mJx4a65c_grow_d5877) := ⟨rfl, ⟨mkJx4a65c_grow_d5877, rfl, (tm_2 (List.mem_of_getElem? (i := 20) (by decide +kernel))), (tm_2 (List.mem_of_getElem? (i := 22) (by decide +kernel))), (List.mem_of_getElem? (i := 4) (by decide +kernel))⟩, _, rfl, rfl⟩
theorem lmJx4a65c_131 : za_okm RJx4a65c 131 (0, 3, 0, 5, mJx4a65c_add_72be8) := ⟨rfl, ⟨mkJx4a65c_add_72be8, rfl, (tm_2 (List.mem_of_getElem? (i := 16) (by decide +kernel))), (tm_2 (List.mem_of_getElem? (i := 18) (by decide +kernel))), (List.mem_of_getElem? (i := 3) (by decide +kernel))⟩, _, rfl, rfl⟩
def flJx4a65c : List (Nat × (Nat × Nat × FieldType × Nat)) := [(9, (0, 1, .array (.object "java/lang/Object"), 0)), (48, (0, 2, .int, 0)), (63, (0, 0, .int, 0))]
def mtJx4a65c : List (Nat × (Nat × Nat × Nat × Nat × za_M)) := [(1, (2, 0, 0, 2, mJxc12de_init_da8c8)), (66, (1, 2, 0, 2, mJ7_copyOf_1904c)), (69, (0, 1, 0, 3, mJx4a65c_grow_92f84)), (73, (1, 3, 0, 1, mJ8_newLength_cabcc)), (79, (5, 2, 0, 0, mX7_isIn)), (118, (1, 2, 0, 1, mJ15_checkIndex_7cf53)), (123, (0, 1, 0, 0, mJx4a65c_elementData_915e3)), (129, (0, 0, 0, 4, mJx4a65c_grow_d5877)), (131, (0, 3, 0, 5, mJx4a65c_add_72be8))]
def nwJx4a65c : List (Nat × (Nat × List Value)) := []
def thJx4a65c : List (Nat × (Nat × Nat)) := []
def ckJx4a65c : List (Nat × Nat) := []
def cnJx4a65c : List (Nat × Int32) := []
def lkJx4a65c : za_LK := (za_lu flJx4a65c, za_lu mtJx4a65c, za_lu nwJx4a65c, za_lu thJx4a65c, (fun i => ([] : List Nat).elem i), za_lu ckJx4a65c, za_lu cnJx4a65c)
theorem okJx4a65c : za_lk RJx4a65c lkJx4a65c := ⟨za_lu_ok (l := flJx4a65c) (Q := fun i q => za_fl RJx4a65c i q.1 q.2.1 q.2.2.1 q.2.2.2) (za_cons lfJx4a65c_9 (za_cons lfJx4a65c_48 (za_cons lfJx4a65c_63 za_nil))), za_lu_ok (l := mtJx4a65c) (Q := za_okm RJx4a65c) (za_cons lmJx4a65c_1 (za_cons lmJx4a65c_66 (za_cons lmJx4a65c_69 (za_cons lmJx4a65c_73 (za_cons lmJx4a65c_79 (za_cons lmJx4a65c_118 (za_cons lmJx4a65c_123 (za_cons lmJx4a65c_129 (za_cons lmJx4a65c_131 za_nil))))))))), za_lu_ok (l := nwJx4a65c) (Q := fun i q => za_nl RJx4a65c i q.1 q.2) za_nil, fun i q j h hj => za_lu_ok (l := thJx4a65c) (Q := fun i q => ∀ j, ([] : List Nat).elem j = true → za_tl RJx4a65c i j q.2 q.1) za_nil i q h j hj, za_lu_ok (l := ckJx4a65c) (Q := fun i ci => ∃ r, vwCl[ci]? = some r ∧ Jvm.Cond.classLink RJx4a65c i r.1 ∈ lw_tbl) za_nil, za_lu_ok (l := cnJx4a65c) (Q := fun i v => Jvm.Cond.constant RJx4a65c i v ∈ lw_tbl) za_nil⟩
theorem uJx4a65c_f9 : za_LK.fl lkJx4a65c 9 = some (0, 1, .array (.object "java/lang/Object"), 0) := rfl
theorem uJx4a65c_f48 : za_LK.fl lkJx4a65c 48 = some (0, 2, .int, 0) := rfl
theorem uJx4a65c_f63 : za_LK.fl lkJx4a65c 63 = some (0, 0, .int, 0) := rfl
theorem uJx4a65c_m1 : za_LK.mt lkJx4a65c 1 = some (2, 0, 0, 2, mJxc12de_init_da8c8) := rfl
theorem uJx4a65c_m66 : za_LK.mt lkJx4a65c 66 = some (1, 2, 0, 2, mJ7_copyOf_1904c) := rfl
theorem uJx4a65c_m69 : za_LK.mt lkJx4a65c 69 = some (0, 1, 0, 3, mJx4a65c_grow_92f84) := rfl
theorem uJx4a65c_m73 : za_LK.mt lkJx4a65c 73 = some (1, 3, 0, 1, mJ8_newLength_cabcc) := rfl
theorem uJx4a65c_m79 : za_LK.mt lkJx4a65c 79 = some (5, 2, 0, 0, mX7_isIn) := rfl
theorem uJx4a65c_m118 : za_LK.mt lkJx4a65c 118 = some (1, 2, 0, 1, mJ15_checkIndex_7cf53) := rfl
theorem uJx4a65c_m123 : za_LK.mt lkJx4a65c 123 = some (0, 1, 0, 0, mJx4a65c_elementData_915e3) := rfl
theorem uJx4a65c_m129 : za_LK.mt lkJx4a65c 129 = some (0, 0, 0, 4, mJx4a65c_grow_d5877) := rfl
theorem uJx4a65c_m131 : za_LK.mt lkJx4a65c 131 = some (0, 3, 0, 5, mJx4a65c_add_72be8) := rfl
theorem lmJ7_300 : za_okm RJ7 300 (1, 3, 0, 1, mJ7_copyOf_6403c) := ⟨rfl, mkJ7_copyOf_6403c, (tm_2 (List.mem_of_getElem? (i := 53) (by decide +kernel))), (tm_2 (List.mem_of_getElem? (i := 54) (by decide +kernel)))⟩
theorem lmJ7_304 : za_okm RJ7 304 (6, 2, 0, 0, mX7_isIn) := ⟨rfl, (tm_2 (List.mem_of_getElem? (i := 59) (by decide +kernel))), (tm_2 (List.mem_of_getElem? (i := 60) (by decide +kernel))), (tm_1 (List.mem_of_getElem? (i := 12) (by decide +kernel))), (tm_2 (List.mem_of_getElem? (i := 61) (by decide +kernel)))⟩
def flJ7 : List (Nat × (Nat × Nat × FieldType × Nat)) := []
def mtJ7 : List (Nat × (Nat × Nat × Nat × Nat × za_M)) := [(300, (1, 3, 0, 1, mJ7_copyOf_6403c)), (304, (6, 2, 0, 0, mX7_isIn))]
def nwJ7 : List (Nat × (Nat × List Value)) := []
def thJ7 : List (Nat × (Nat × Nat)) := []
def ckJ7 : List (Nat × Nat) := []
def cnJ7 : List (Nat × Int32) := []
def lkJ7 : za_LK := (za_lu flJ7, za_lu mtJ7, za_lu nwJ7, za_lu thJ7, (fun i => ([] : List Nat).elem i), za_lu ckJ7, za_lu cnJ7)
theorem okJ7 : za_lk RJ7 lkJ7 := ⟨za_lu_ok (l := flJ7) (Q := fun i q => za_fl RJ7 i q.1 q.2.1 q.2.2.1 q.2.2.2) za_nil, za_lu_ok (l := mtJ7) (Q := za_okm RJ7) (za_cons lmJ7_300 (za_cons lmJ7_304 za_nil)), za_lu_ok (l := nwJ7) (Q := fun i q => za_nl RJ7 i q.1 q.2) za_nil, fun i q j h hj => za_lu_ok (l := thJ7) (Q := fun i q => ∀ j, ([] : List Nat).elem j = true → za_tl RJ7 i j q.2 q.1) za_nil i q h j hj, za_lu_ok (l := ckJ7) (Q := fun i ci => ∃ r, vwCl[ci]? = some r ∧ Jvm.Cond.classLink RJ7 i r.1 ∈ lw_tbl) za_nil, za_lu_ok (l := cnJ7) (Q := fun i v => Jvm.Cond.constant RJ7 i v ∈ lw_tbl) za_nil⟩
theorem uJ7_m300 : za_LK.mt lkJ7 300 = some (1, 3, 0, 1, mJ7_copyOf_6403c) := rfl
theorem uJ7_m304 : za_LK.mt lkJ7 304 = some (6, 2, 0, 0, mX7_isIn) := rfl
theorem lmJ15_105 : za_okm RJ15 105 (1, 3, 0, 0, mJ3_checkIndex_8e157) := ⟨rfl, mkJ3_checkIndex_8e157, (tm_1 (List.mem_of_getElem? (i := 194) (by decide +kernel))), (tm_1 (List.mem_of_getElem? (i := 195) (by decide +kernel)))⟩
def flJ15 : List (Nat × (Nat × Nat × FieldType × Nat)) := []
def mtJ15 : List (Nat × (Nat × Nat × Nat × Nat × za_M)) := [(105, (1, 3, 0, 0, mJ3_checkIndex_8e157))]
def nwJ15 : List (Nat × (Nat × List Value)) := []
def thJ15 : List (Nat × (Nat × Nat)) := []
def ckJ15 : List (Nat × Nat) := []
def cnJ15 : List (Nat × Int32) := []
def lkJ15 : za_LK := (za_lu flJ15, za_lu mtJ15, za_lu nwJ15, za_lu thJ15, (fun i => ([] : List Nat).elem i), za_lu ckJ15, za_lu cnJ15)
theorem okJ15 : za_lk RJ15 lkJ15 := ⟨za_lu_ok (l := flJ15) (Q := fun i q => za_fl RJ15 i q.1 q.2.1 q.2.2.1 q.2.2.2) za_nil, za_lu_ok (l := mtJ15) (Q := za_okm RJ15) (za_cons lmJ15_105 za_nil), za_lu_ok (l := nwJ15) (Q := fun i q => za_nl RJ15 i q.1 q.2) za_nil, fun i q j h hj => za_lu_ok (l := thJ15) (Q := fun i q => ∀ j, ([] : List Nat).elem j = true → za_tl RJ15 i j q.2 q.1) za_nil i q h j hj, za_lu_ok (l := ckJ15) (Q := fun i ci => ∃ r, vwCl[ci]? = some r ∧ Jvm.Cond.classLink RJ15 i r.1 ∈ lw_tbl) za_nil, za_lu_ok (l := cnJ15) (Q := fun i v => Jvm.Cond.constant RJ15 i v ∈ lw_tbl) za_nil⟩
theorem uJ15_m105 : za_LK.mt lkJ15 105 = some (1, 3, 0, 0, mJ3_checkIndex_8e157) := rfl
theorem lmJ8_194 : za_okm RJ8 194 (5, 2, 0, 0, mX7_isIn) := ⟨rfl, (tm_2 (List.mem_of_getElem? (i := 31) (by decide +kernel))), (tm_2 (List.mem_of_getElem? (i := 32) (by decide +kernel))), (tm_1 (List.mem_of_getElem? (i := 12) (by decide +kernel))), (tm_2 (List.mem_of_getElem? (i := 33) (by decide +kernel)))⟩
theorem lmJ8_201 : za_okm RJ8 201 (1, 2, 0, 0, mJ8_hugeLength_7cf53) := ⟨rfl, mkJ8_hugeLength_7cf53, (tm_2 (List.mem_of_getElem? (i := 35) (by decide +kernel))), (tm_2 (List.mem_of_getElem? (i := 36) (by decide +kernel)))⟩
def flJ8 : List (Nat × (Nat × Nat × FieldType × Nat)) := []
def mtJ8 : List (Nat × (Nat × Nat × Nat × Nat × za_M)) := [(194, (5, 2, 0, 0, mX7_isIn)), (201, (1, 2, 0, 0, mJ8_hugeLength_7cf53))]
def nwJ8 : List (Nat × (Nat × List Value)) := []
def thJ8 : List (Nat × (Nat × Nat)) := []
def ckJ8 : List (Nat × Nat) := []
def cnJ8 : List (Nat × Int32) := [(200, 2147483639)]
def lkJ8 : za_LK := (za_lu flJ8, za_lu mtJ8, za_lu nwJ8, za_lu thJ8, (fun i => ([] : List Nat).elem i), za_lu ckJ8, za_lu cnJ8)
theorem okJ8 : za_lk RJ8 lkJ8 := ⟨za_lu_ok (l := flJ8) (Q := fun i q => za_fl RJ8 i q.1 q.2.1 q.2.2.1 q.2.2.2) za_nil, za_lu_ok (l := mtJ8) (Q := za_okm RJ8) (za_cons lmJ8_194 (za_cons lmJ8_201 za_nil)), za_lu_ok (l := nwJ8) (Q := fun i q => za_nl RJ8 i q.1 q.2) za_nil, fun i q j h hj => za_lu_ok (l := thJ8) (Q := fun i q => ∀ j, ([] : List Nat).elem j = true → za_tl RJ8 i j q.2 q.1) za_nil i q h j hj, za_lu_ok (l := ckJ8) (Q := fun i ci => ∃ r, vwCl[ci]? = some r ∧ Jvm.Cond.classLink RJ8 i r.1 ∈ lw_tbl) za_nil, za_lu_ok (l := cnJ8) (Q := fun i v => Jvm.Cond.constant RJ8 i v ∈ lw_tbl) (za_cons (tm_2 (List.mem_of_getElem? (i := 34) (by decide +kernel))) za_nil)⟩
theorem uJ8_m194 : za_LK.mt lkJ8 194 = some (5, 2, 0, 0, mX7_isIn) := rfl
theorem uJ8_m201 : za_LK.mt lkJ8 201 = some (1, 2, 0, 0, mJ8_hugeLength_7cf53) := rfl
theorem uJ8_k200 : za_LK.cn lkJ8 200 = some 2147483639 := rfl
def flJ3 : List (Nat × (Nat × Nat × FieldType × Nat)) := []
def mtJ3 : List (Nat × (Nat × Nat × Nat × Nat × za_M)) := []
def nwJ3 : List (Nat × (Nat × List Value)) := []
def thJ3 : List (Nat × (Nat × Nat)) := []
def ckJ3 : List (Nat × Nat) := []
def cnJ3 : List (Nat × Int32) := []
def lkJ3 : za_LK := (za_lu flJ3, za_lu mtJ3, za_lu nwJ3, za_lu thJ3, (fun i => ([] : List Nat).elem i), za_lu ckJ3, za_lu cnJ3)
theorem okJ3 : za_lk RJ3 lkJ3 := ⟨za_lu_ok (l := flJ3) (Q := fun i q => za_fl RJ3 i q.1 q.2.1 q.2.2.1 q.2.2.2) za_nil, za_lu_ok (l := mtJ3) (Q := za_okm RJ3) za_nil, za_lu_ok (l := nwJ3) (Q := fun i q => za_nl RJ3 i q.1 q.2) za_nil, fun i q j h hj => za_lu_ok (l := thJ3) (Q := fun i q => ∀ j, ([] : List Nat).elem j = true → za_tl RJ3 i j q.2 q.1) za_nil i q h j hj, za_lu_ok (l := ckJ3) (Q := fun i ci => ∃ r, vwCl[ci]? = some r ∧ Jvm.Cond.classLink RJ3 i r.1 ∈ lw_tbl) za_nil, za_lu_ok (l := cnJ3) (Q := fun i v => Jvm.Cond.constant RJ3 i v ∈ lw_tbl) za_nil⟩
end
section
theorem lmX0_1 : za_okm RX0 1 (4, 0, 0, 0, mX7_isIn) := ⟨rfl, (tm_2 (List.mem_of_getElem? (i := 116) (by decide +kernel))), (tm_1 (List.mem_of_getElem? (i := 26) (by decide +kernel))), (tm_1 (List.mem_of_getElem? (i := 27) (by decide +kernel)))⟩
theorem lnX0_7 : za_nl RX0 7 0 [.int (nI 0), .null, .int (nI 0)] := ⟨_, _, _, tyJx4a65c, rfl, (tm_2 (List.mem_of_getElem? (i := 117) (by decide +kernel))), (tm_1 (List.mem_of_getElem? (i := 29) (by decide +kernel))), (tm_1 (List.mem_of_getElem? (i := 4) (by decide +kernel))), uwJx4a65c, tyJx4a65c_ok, rfl, by decide +kernel⟩
theorem lmX0_9 : za_okm RX0 9 (2, 0, 0, 3, mJx4a65c_init_da8c8) := ⟨rfl, mkJx4a65c_init_da8c8, rfl, rfl, rfl, (tm_2 (List.mem_of_getElem? (i := 118) (by decide +kernel))), (tm_1 (List.mem_of_getElem? (i := 31) (by decide +kernel)))⟩
theorem lfX0_10 : za_fl RX0 10 1 1 (.object "java/util/ArrayList") 1 := ⟨_, _, _, "FeedTower$App", tyX0, rfl, by decide, (tm_2 (List.mem_of_getElem? (i := 121) (by decide +kernel))), Or.inl rfl, uwX0, tyX0_ok, nmX0, rfl, (fun h => by cases h), fun _ => ⟨rfl, rfl⟩⟩
theorem lfX0_16 : za_fl RX0 16 1 2 (.int) 0 := ⟨_, _, _, "FeedTower$App", tyX0, rfl, by decide, (tm_2 (List.mem_of_getElem? (i := 123) (by decide +kernel))), Or.inl rfl, uwX0, tyX0_ok, nmX0, rfl, fun _ => rfl, fun h => by cases h⟩
theorem lfX0_20 : za_fl RX0 20 1 0 (.int) 1 := ⟨_, _, _, "FeedTower$App", tyX0, rfl, by decide, (tm_2 (List.mem_of_getElem? (i := 119) (by decide +kernel))), Or.inl rfl, uwX0, tyX0_ok, nmX0, rfl, (fun h => by cases h), fun _ => ⟨rfl, rfl⟩⟩
def flX0 : List (Nat × (Nat × Nat × FieldType × Nat)) := [(10, (1, 1, .object "java/util/ArrayList", 1)), (16, (1, 2, .int, 0)), (20, (1, 0, .int, 1))]
def mtX0 : List (Nat × (Nat × Nat × Nat × Nat × za_M)) := [(1, (4, 0, 0, 0, mX7_isIn)), (9, (2, 0, 0, 3, mJx4a65c_init_da8c8))]
def nwX0 : List (Nat × (Nat × List Value)) := [(7, (0, [.int (nI 0), .null, .int (nI 0)]))]
def thX0 : List (Nat × (Nat × Nat)) := []
def ckX0 : List (Nat × Nat) := []
def cnX0 : List (Nat × Int32) := []
def lkX0 : za_LK := (za_lu flX0, za_lu mtX0, za_lu nwX0, za_lu thX0, (fun i => ([] : List Nat).elem i), za_lu ckX0, za_lu cnX0)
theorem okX0 : za_lk RX0 lkX0 := ⟨za_lu_ok (l := flX0) (Q := fun i q => za_fl RX0 i q.1 q.2.1 q.2.2.1 q.2.2.2) (za_cons lfX0_10 (za_cons lfX0_16 (za_cons lfX0_20 za_nil))), za_lu_ok (l := mtX0) (Q := za_okm RX0) (za_cons lmX0_1 (za_cons lmX0_9 za_nil)), za_lu_ok (l := nwX0) (Q := fun i q => za_nl RX0 i q.1 q.2) (za_cons lnX0_7 za_nil), fun i q j h hj => za_lu_ok (l := thX0) (Q := fun i q => ∀ j, ([] : List Nat).elem j = true → za_tl RX0 i j q.2 q.1) za_nil i q h j hj, za_lu_ok (l := ckX0) (Q := fun i ci => ∃ r, vwCl[ci]? = some r ∧ Jvm.Cond.classLink RX0 i r.1 ∈ lw_tbl) za_nil, za_lu_ok (l := cnX0) (Q := fun i v => Jvm.Cond.constant RX0 i v ∈ lw_tbl) za_nil⟩
theorem uX0_f10 : za_LK.fl lkX0 10 = some (1, 1, .object "java/util/ArrayList", 1) := rfl
theorem uX0_f16 : za_LK.fl lkX0 16 = some (1, 2, .int, 0) := rfl
theorem uX0_f20 : za_LK.fl lkX0 20 = some (1, 0, .int, 1) := rfl
theorem uX0_m1 : za_LK.mt lkX0 1 = some (4, 0, 0, 0, mX7_isIn) := rfl
theorem uX0_m9 : za_LK.mt lkX0 9 = some (2, 0, 0, 3, mJx4a65c_init_da8c8) := rfl
theorem uX0_n7 : za_LK.nw lkX0 7 = some (0, [.int (nI 0), .null, .int (nI 0)]) := rfl
theorem lmX3_1 : za_okm RX3 1 (4, 0, 0, 0, mX7_isIn) := ⟨rfl, (tm_1 (List.mem_of_getElem? (i := 230) (by decide +kernel))), (tm_1 (List.mem_of_getElem? (i := 26) (by decide +kernel))), (tm_1 (List.mem_of_getElem? (i := 27) (by decide +kernel)))⟩
theorem lfX3_7 : za_fl RX3 7 2 4 (.boolean) 0 := ⟨_, _, _, "FeedTower$Item", tyX3, rfl, by decide, (tm_1 (List.mem_of_getElem? (i := 239) (by decide +kernel))), Or.inl rfl, uwX3, tyX3_ok, nmX3, rfl, fun _ => rfl, fun h => by cases h⟩
theorem lfX3_13 : za_fl RX3 13 2 0 (.int) 1 := ⟨_, _, _, "FeedTower$Item", tyX3, rfl, by decide, (tm_1 (List.mem_of_getElem? (i := 231) (by decide +kernel))), Or.inl rfl, uwX3, tyX3_ok, nmX3, rfl, (fun h => by cases h), fun _ => ⟨rfl, rfl⟩⟩
theorem lfX3_17 : za_fl RX3 17 2 1 (.int) 1 := ⟨_, _, _, "FeedTower$Item", tyX3, rfl, by decide, (tm_1 (List.mem_of_getElem? (i := 233) (by decide +kernel))), Or.inl rfl, uwX3, tyX3_ok, nmX3, rfl, (fun h => by cases h), fun _ => ⟨rfl, rfl⟩⟩
theorem lfX3_20 : za_fl RX3 20 2 2 (.int) 1 := ⟨_, _, _, "FeedTower$Item", tyX3, rfl, by decide, (tm_1 (List.mem_of_getElem? (i := 235) (by decide +kernel))), Or.inl rfl, uwX3, tyX3_ok, nmX3, rfl, (fun h => by cases h), fun _ => ⟨rfl, rfl⟩⟩
theorem lfX3_23 : za_fl RX3 23 2 3 (.object "java/util/ArrayList") 1 := ⟨_, _, _, "FeedTower$Item", tyX3, rfl, by decide, (tm_1 (List.mem_of_getElem? (i := 237) (by decide +kernel))), Or.inl rfl, uwX3, tyX3_ok, nmX3, rfl, (fun h => by cases h), fun _ => ⟨rfl, rfl⟩⟩
theorem lmX3_27 : za_okm RX3 27 (0, 0, 0, 0, mJx4a65c_size_8abf5) := ⟨rfl, ⟨mkJx4a65c_size_8abf5, rfl, (tm_2 (List.mem_of_getElem? (i := 75) (by decide +kernel))), (tm_1 (List.mem_of_getElem? (i := 184) (by decide +kernel))), (tm_1 (List.mem_of_getElem? (i := 185) (by decide +kernel)))⟩, _, rfl, rfl⟩
theorem lmX3_40 : za_okm RX3 40 (0, 1, 0, 2, mJx4a65c_get_915e3) := ⟨rfl, ⟨mkJx4a65c_get_915e3, rfl, (tm_2 (List.mem_of_getElem? (i := 76) (by decide +kernel))), (tm_1 (List.mem_of_getElem? (i := 188) (by decide +kernel))), (tm_1 (List.mem_of_getElem? (i := 189) (by decide +kernel)))⟩, _, rfl, rfl⟩
theorem lfX3_46 : za_fl RX3 46 3 3 (.boolean) 0 := ⟨_, _, _, "FeedTower$Part", tyX4, rfl, by decide, (tm_2 (List.mem_of_getElem? (i := 204) (by decide +kernel))), Or.inl rfl, uwX4, tyX4_ok, nmX4, rfl, fun _ => rfl, fun h => by cases h⟩
theorem lfX3_49 : za_fl RX3 49 3 1 (.int) 2 := ⟨_, _, _, "FeedTower$Part", tyX4, rfl, by decide, (tm_2 (List.mem_of_getElem? (i := 199) (by decide +kernel))), Or.inl rfl, uwX4, tyX4_ok, nmX4, rfl, (fun h => by cases h), fun h => by cases h⟩
theorem ltX3_33 : ∀ j ∈ ([35] : List Nat), za_tl RX3 33 j 37 2 := by
  intro j hj
  refine ⟨Or.inr rfl, by decide, ?_, (tm_3 (List.mem_of_getElem? (i := 8) (by decide +kernel))), (tm_1 (List.mem_of_getElem? (i := 8) (by decide +kernel))), by decide +kernel, by decide +kernel, by decide +kernel⟩
  rcases List.mem_cons.mp hj with rfl | hj
  · exact ⟨"there is no such part of the item", (tm_3 (List.mem_of_getElem? (i := 9) (by decide +kernel)))⟩
  cases hj
def flX3 : List (Nat × (Nat × Nat × FieldType × Nat)) := [(7, (2, 4, .boolean, 0)), (13, (2, 0, .int, 1)), (17, (2, 1, .int, 1)), (20, (2, 2, .int, 1)), (23, (2, 3, .object "java/util/ArrayList", 1)), (46, (3, 3, .boolean, 0)), (49, (3, 1, .int, 2))]
def mtX3 : List (Nat × (Nat × Nat × Nat × Nat × za_M)) := [(1, (4, 0, 0, 0, mX7_isIn)), (27, (0, 0, 0, 0, mJx4a65c_size_8abf5)), (40, (0, 1, 0, 2, mJx4a65c_get_915e3))]
def nwX3 : List (Nat × (Nat × List Value)) := []
def thX3 : List (Nat × (Nat × Nat)) := [(33, (2, 37))]
def ckX3 : List (Nat × Nat) := [(44, 3)]
def cnX3 : List (Nat × Int32) := []
def lkX3 : za_LK := (za_lu flX3, za_lu mtX3, za_lu nwX3, za_lu thX3, (fun i => ([35] : List Nat).elem i), za_lu ckX3, za_lu cnX3)
theorem okX3 : za_lk RX3 lkX3 := ⟨za_lu_ok (l := flX3) (Q := fun i q => za_fl RX3 i q.1 q.2.1 q.2.2.1 q.2.2.2) (za_cons lfX3_7 (za_cons lfX3_13 (za_cons lfX3_17 (za_cons lfX3_20 (za_cons lfX3_23 (za_cons lfX3_46 (za_cons lfX3_49 za_nil))))))), za_lu_ok (l := mtX3) (Q := za_okm RX3) (za_cons lmX3_1 (za_cons lmX3_27 (za_cons lmX3_40 za_nil))), za_lu_ok (l := nwX3) (Q := fun i q => za_nl RX3 i q.1 q.2) za_nil, fun i q j h hj => za_lu_ok (l := thX3) (Q := fun i q => ∀ j, ([35] : List Nat).elem j = true → za_tl RX3 i j q.2 q.1) (za_cons (fun j hj => ltX3_33 j (List.elem_iff.mp hj)) za_nil) i q h j hj, za_lu_ok (l := ckX3) (Q := fun i ci => ∃ r, vwCl[ci]? = some r ∧ Jvm.Cond.classLink RX3 i r.1 ∈ lw_tbl) (za_cons ⟨_, rfl, (tm_2 (List.mem_of_getElem? (i := 77) (by decide +kernel)))⟩ za_nil), za_lu_ok (l := cnX3) (Q := fun i v => Jvm.Cond.constant RX3 i v ∈ lw_tbl) za_nil⟩
theorem uX3_f7 : za_LK.fl lkX3 7 = some (2, 4, .boolean, 0) := rfl
theorem uX3_f13 : za_LK.fl lkX3 13 = some (2, 0, .int, 1) := rfl
theorem uX3_f17 : za_LK.fl lkX3 17 = some (2, 1, .int, 1) := rfl
theorem uX3_f20 : za_LK.fl lkX3 20 = some (2, 2, .int, 1) := rfl
theorem uX3_f23 : za_LK.fl lkX3 23 = some (2, 3, .object "java/util/ArrayList", 1) := rfl
theorem uX3_f46 : za_LK.fl lkX3 46 = some (3, 3, .boolean, 0) := rfl
theorem uX3_f49 : za_LK.fl lkX3 49 = some (3, 1, .int, 2) := rfl
theorem uX3_m1 : za_LK.mt lkX3 1 = some (4, 0, 0, 0, mX7_isIn) := rfl
theorem uX3_m27 : za_LK.mt lkX3 27 = some (0, 0, 0, 0, mJx4a65c_size_8abf5) := rfl
theorem uX3_m40 : za_LK.mt lkX3 40 = some (0, 1, 0, 2, mJx4a65c_get_915e3) := rfl
theorem uX3_n33 : za_LK.nw lkX3 33 = none := rfl
theorem uX3_t33 : za_LK.th lkX3 33 = some (2, 37) := rfl
theorem uX3_s35 : za_LK.sx lkX3 35 = true := rfl
theorem uX3_c44 : za_LK.ck lkX3 44 = some 3 := rfl
theorem lmX4_1 : za_okm RX4 1 (4, 0, 0, 0, mX7_isIn) := ⟨rfl, (tm_2 (List.mem_of_getElem? (i := 195) (by decide +kernel))), (tm_1 (List.mem_of_getElem? (i := 26) (by decide +kernel))), (tm_1 (List.mem_of_getElem? (i := 27) (by decide +kernel)))⟩
theorem lfX4_7 : za_fl RX4 7 3 3 (.boolean) 0 := ⟨_, _, _, "FeedTower$Part", tyX4, rfl, by decide, (tm_2 (List.mem_of_getElem? (i := 203) (by decide +kernel))), Or.inl rfl, uwX4, tyX4_ok, nmX4, rfl, fun _ => rfl, fun h => by cases h⟩
theorem lfX4_13 : za_fl RX4 13 3 4 (.int) 0 := ⟨_, _, _, "FeedTower$Part", tyX4, rfl, by decide, (tm_2 (List.mem_of_getElem? (i := 206) (by decide +kernel))), Or.inl rfl, uwX4, tyX4_ok, nmX4, rfl, fun _ => rfl, fun h => by cases h⟩
theorem lfX4_17 : za_fl RX4 17 3 0 (.int) 1 := ⟨_, _, _, "FeedTower$Part", tyX4, rfl, by decide, (tm_2 (List.mem_of_getElem? (i := 196) (by decide +kernel))), Or.inl rfl, uwX4, tyX4_ok, nmX4, rfl, (fun h => by cases h), fun _ => ⟨rfl, rfl⟩⟩
theorem lfX4_20 : za_fl RX4 20 3 1 (.int) 1 := ⟨_, _, _, "FeedTower$Part", tyX4, rfl, by decide, (tm_2 (List.mem_of_getElem? (i := 198) (by decide +kernel))), Or.inl rfl, uwX4, tyX4_ok, nmX4, rfl, (fun h => by cases h), fun _ => ⟨rfl, rfl⟩⟩
theorem lfX4_23 : za_fl RX4 23 3 2 (.int) 1 := ⟨_, _, _, "FeedTower$Part", tyX4, rfl, by decide, (tm_2 (List.mem_of_getElem? (i := 201) (by decide +kernel))), Or.inl rfl, uwX4, tyX4_ok, nmX4, rfl, (fun h => by cases h), fun _ => ⟨rfl, rfl⟩⟩
def flX4 : List (Nat × (Nat × Nat × FieldType × Nat)) := [(7, (3, 3, .boolean, 0)), (13, (3, 4, .int, 0)), (17, (3, 0, .int, 1)), (20, (3, 1, .int, 1)), (23, (3, 2, .int, 1))]
def mtX4 : List (Nat × (Nat × Nat × Nat × Nat × za_M)) := [(1, (4, 0, 0, 0, mX7_isIn))]
def nwX4 : List (Nat × (Nat × List Value)) := []
def thX4 : List (Nat × (Nat × Nat)) := []
def ckX4 : List (Nat × Nat) := []
def cnX4 : List (Nat × Int32) := []
def lkX4 : za_LK := (za_lu flX4, za_lu mtX4, za_lu nwX4, za_lu thX4, (fun i => ([] : List Nat).elem i), za_lu ckX4, za_lu cnX4)
theorem okX4 : za_lk RX4 lkX4 := ⟨za_lu_ok (l := flX4) (Q := fun i q => za_fl RX4 i q.1 q.2.1 q.2.2.1 q.2.2.2) (za_cons lfX4_7 (za_cons lfX4_13 (za_cons lfX4_17 (za_cons lfX4_20 (za_cons lfX4_23 za_nil))))), za_lu_ok (l := mtX4) (Q := za_okm RX4) (za_cons lmX4_1 za_nil), za_lu_ok (l := nwX4) (Q := fun i q => za_nl RX4 i q.1 q.2) za_nil, fun i q j h hj => za_lu_ok (l := thX4) (Q := fun i q => ∀ j, ([] : List Nat).elem j = true → za_tl RX4 i j q.2 q.1) za_nil i q h j hj, za_lu_ok (l := ckX4) (Q := fun i ci => ∃ r, vwCl[ci]? = some r ∧ Jvm.Cond.classLink RX4 i r.1 ∈ lw_tbl) za_nil, za_lu_ok (l := cnX4) (Q := fun i v => Jvm.Cond.constant RX4 i v ∈ lw_tbl) za_nil⟩
theorem uX4_f7 : za_LK.fl lkX4 7 = some (3, 3, .boolean, 0) := rfl
theorem uX4_f13 : za_LK.fl lkX4 13 = some (3, 4, .int, 0) := rfl
theorem uX4_f17 : za_LK.fl lkX4 17 = some (3, 0, .int, 1) := rfl
theorem uX4_f20 : za_LK.fl lkX4 20 = some (3, 1, .int, 1) := rfl
theorem uX4_f23 : za_LK.fl lkX4 23 = some (3, 2, .int, 1) := rfl
theorem uX4_m1 : za_LK.mt lkX4 1 = some (4, 0, 0, 0, mX7_isIn) := rfl
end
section
theorem lmX7_1 : za_okm RX7 1 (4, 0, 0, 0, mX7_isIn) := ⟨rfl, (tm_1 (List.mem_of_getElem? (i := 25) (by decide +kernel))), (tm_1 (List.mem_of_getElem? (i := 26) (by decide +kernel))), (tm_1 (List.mem_of_getElem? (i := 27) (by decide +kernel)))⟩
theorem lnX7_7 : za_nl RX7 7 0 [.int (nI 0), .null, .int (nI 0)] := ⟨_, _, _, tyJx4a65c, rfl, (tm_1 (List.mem_of_getElem? (i := 28) (by decide +kernel))), (tm_1 (List.mem_of_getElem? (i := 29) (by decide +kernel))), (tm_1 (List.mem_of_getElem? (i := 4) (by decide +kernel))), uwJx4a65c, tyJx4a65c_ok, rfl, by decide +kernel⟩
theorem lmX7_9 : za_okm RX7 9 (2, 0, 0, 3, mJx4a65c_init_da8c8) := ⟨rfl, mkJx4a65c_init_da8c8, rfl, rfl, rfl, (tm_1 (List.mem_of_getElem? (i := 30) (by decide +kernel))), (tm_1 (List.mem_of_getElem? (i := 31) (by decide +kernel)))⟩
theorem lfX7_10 : za_fl RX7 10 4 0 (.object "java/util/ArrayList") 1 := ⟨_, _, _, "FeedTower", tyX7, rfl, by decide, (tm_1 (List.mem_of_getElem? (i := 54) (by decide +kernel))), Or.inl rfl, uwX7, tyX7_ok, nmX7, rfl, (fun h => by cases h), fun _ => ⟨rfl, rfl⟩⟩
theorem lfX7_16 : za_fl RX7 16 4 1 (.object "java/util/ArrayList") 1 := ⟨_, _, _, "FeedTower", tyX7, rfl, by decide, (tm_1 (List.mem_of_getElem? (i := 55) (by decide +kernel))), Or.inl rfl, uwX7, tyX7_ok, nmX7, rfl, (fun h => by cases h), fun _ => ⟨rfl, rfl⟩⟩
theorem lfX7_19 : za_fl RX7 19 4 2 (.object "java/util/ArrayList") 1 := ⟨_, _, _, "FeedTower", tyX7, rfl, by decide, (tm_1 (List.mem_of_getElem? (i := 56) (by decide +kernel))), Or.inl rfl, uwX7, tyX7_ok, nmX7, rfl, (fun h => by cases h), fun _ => ⟨rfl, rfl⟩⟩
theorem lfX7_22 : za_fl RX7 22 4 3 (.object "java/util/ArrayList") 1 := ⟨_, _, _, "FeedTower", tyX7, rfl, by decide, (tm_1 (List.mem_of_getElem? (i := 57) (by decide +kernel))), Or.inl rfl, uwX7, tyX7_ok, nmX7, rfl, (fun h => by cases h), fun _ => ⟨rfl, rfl⟩⟩
theorem lfX7_25 : za_fl RX7 25 4 4 (.object "java/util/ArrayList") 1 := ⟨_, _, _, "FeedTower", tyX7, rfl, by decide, (tm_1 (List.mem_of_getElem? (i := 58) (by decide +kernel))), Or.inl rfl, uwX7, tyX7_ok, nmX7, rfl, (fun h => by cases h), fun _ => ⟨rfl, rfl⟩⟩
theorem lfX7_28 : za_fl RX7 28 4 5 (.object "java/util/ArrayList") 0 := ⟨_, _, _, "FeedTower", tyX7, rfl, by decide, (tm_1 (List.mem_of_getElem? (i := 59) (by decide +kernel))), Or.inl rfl, uwX7, tyX7_ok, nmX7, rfl, fun _ => rfl, fun h => by cases h⟩
theorem lfX7_31 : za_fl RX7 31 4 6 (.int) 0 := ⟨_, _, _, "FeedTower", tyX7, rfl, by decide, (tm_1 (List.mem_of_getElem? (i := 60) (by decide +kernel))), Or.inl rfl, uwX7, tyX7_ok, nmX7, rfl, fun _ => rfl, fun h => by cases h⟩
theorem lfX7_35 : za_fl RX7 35 4 7 (.int) 0 := ⟨_, _, _, "FeedTower", tyX7, rfl, by decide, (tm_1 (List.mem_of_getElem? (i := 61) (by decide +kernel))), Or.inl rfl, uwX7, tyX7_ok, nmX7, rfl, fun _ => rfl, fun h => by cases h⟩
theorem lfX7_38 : za_fl RX7 38 4 8 (.int) 0 := ⟨_, _, _, "FeedTower", tyX7, rfl, by decide, (tm_1 (List.mem_of_getElem? (i := 62) (by decide +kernel))), Or.inl rfl, uwX7, tyX7_ok, nmX7, rfl, fun _ => rfl, fun h => by cases h⟩
theorem lfX7_41 : za_fl RX7 41 4 9 (.int) 0 := ⟨_, _, _, "FeedTower", tyX7, rfl, by decide, (tm_1 (List.mem_of_getElem? (i := 63) (by decide +kernel))), Or.inl rfl, uwX7, tyX7_ok, nmX7, rfl, fun _ => rfl, fun h => by cases h⟩
theorem lmX7_44 : za_okm RX7 44 (1, 3, 0, 0, mX7_isIn) := ⟨rfl, mkX7_isIn, (tm_1 (List.mem_of_getElem? (i := 160) (by decide +kernel))), (tm_1 (List.mem_of_getElem? (i := 161) (by decide +kernel)))⟩
theorem lnX7_55 : za_nl RX7 55 3 [.int (nI 0), .int (nI 0), .int (nI 0), .int (nI 0), .int (nI 0)] := ⟨_, _, _, tyX4, rfl, (tm_1 (List.mem_of_getElem? (i := 201) (by decide +kernel))), (tm_2 (List.mem_of_getElem? (i := 191) (by decide +kernel))), (tm_1 (List.mem_of_getElem? (i := 18) (by decide +kernel))), uwX4, tyX4_ok, rfl, by decide +kernel⟩
theorem lmX7_57 : za_okm RX7 57 (2, 3, 0, 1, mX4_init) := ⟨rfl, mkX4_init, rfl, rfl, rfl, (tm_2 (List.mem_of_getElem? (i := 192) (by decide +kernel))), (tm_2 (List.mem_of_getElem? (i := 193) (by decide +kernel)))⟩
theorem lmX7_60 : za_okm RX7 60 (0, 1, 4, 7, mX7_addToDraft) := ⟨rfl, ⟨mkX7_addToDraft, rfl, (tm_2 (List.mem_of_getElem? (i := 218) (by decide +kernel))), (tm_2 (List.mem_of_getElem? (i := 220) (by decide +kernel))), (List.mem_of_getElem? (i := 13) (by decide +kernel))⟩, _, rfl, rfl⟩
theorem lmX7_64 : za_okm RX7 64 (1, 1, 0, 6, mX7_needSong) := ⟨rfl, mkX7_needSong, (tm_2 (List.mem_of_getElem? (i := 227) (by decide +kernel))), (tm_2 (List.mem_of_getElem? (i := 228) (by decide +kernel)))⟩
theorem lmX7_68 : za_okm RX7 68 (1, 2, 0, 0, mX7_hasBit) := ⟨rfl, mkX7_hasBit, (tm_1 (List.mem_of_getElem? (i := 206) (by decide +kernel))), (tm_1 (List.mem_of_getElem? (i := 207) (by decide +kernel)))⟩
theorem lmX7_79 : za_okm RX7 79 (1, 1, 0, 6, mX7_needShow) := ⟨rfl, mkX7_needShow, (tm_1 (List.mem_of_getElem? (i := 89) (by decide +kernel))), (tm_1 (List.mem_of_getElem? (i := 90) (by decide +kernel)))⟩
theorem lmX7_84 : za_okm RX7 84 (0, 0, 4, 3, mX7_isDraftOfUse) := ⟨rfl, ⟨mkX7_isDraftOfUse, rfl, (tm_1 (List.mem_of_getElem? (i := 179) (by decide +kernel))), (tm_1 (List.mem_of_getElem? (i := 181) (by decide +kernel))), (List.mem_of_getElem? (i := 1) (by decide +kernel))⟩, _, rfl, rfl⟩
theorem lmX7_88 : za_okm RX7 88 (0, 0, 0, 0, mJx4a65c_size_8abf5) := ⟨rfl, ⟨mkJx4a65c_size_8abf5, rfl, (tm_1 (List.mem_of_getElem? (i := 183) (by decide +kernel))), (tm_1 (List.mem_of_getElem? (i := 184) (by decide +kernel))), (tm_1 (List.mem_of_getElem? (i := 185) (by decide +kernel)))⟩, _, rfl, rfl⟩
theorem lnX7_94 : za_nl RX7 94 2 [.int (nI 0), .int (nI 0), .int (nI 0), .null, .int (nI 0)] := ⟨_, _, _, tyX3, rfl, (tm_1 (List.mem_of_getElem? (i := 225) (by decide +kernel))), (tm_1 (List.mem_of_getElem? (i := 226) (by decide +kernel))), (tm_1 (List.mem_of_getElem? (i := 19) (by decide +kernel))), uwX3, tyX3_ok, rfl, by decide +kernel⟩
theorem lmX7_96 : za_okm RX7 96 (2, 4, 0, 1, mX3_init) := ⟨rfl, mkX3_init, rfl, rfl, rfl, (tm_1 (List.mem_of_getElem? (i := 227) (by decide +kernel))), (tm_1 (List.mem_of_getElem? (i := 228) (by decide +kernel)))⟩
theorem lmX7_99 : za_okm RX7 99 (0, 1, 0, 6, mJx4a65c_add_9ea2d) := ⟨rfl, ⟨mkJx4a65c_add_9ea2d, rfl, (tm_2 (List.mem_of_getElem? (i := 12) (by decide +kernel))), (tm_2 (List.mem_of_getElem? (i := 13) (by decide +kernel))), (tm_2 (List.mem_of_getElem? (i := 14) (by decide +kernel)))⟩, _, rfl, rfl⟩
theorem lmX7_103 : za_okm RX7 103 (0, 1, 4, 4, mX7_cutWhatIsOut) := ⟨rfl, ⟨mkX7_cutWhatIsOut, rfl, (tm_2 (List.mem_of_getElem? (i := 67) (by decide +kernel))), (tm_2 (List.mem_of_getElem? (i := 69) (by decide +kernel))), (List.mem_of_getElem? (i := 6) (by decide +kernel))⟩, _, rfl, rfl⟩
theorem lmX7_107 : za_okm RX7 107 (0, 1, 4, 7, mX7_noteChange) := ⟨rfl, ⟨mkX7_noteChange, rfl, (tm_2 (List.mem_of_getElem? (i := 78) (by decide +kernel))), (tm_2 (List.mem_of_getElem? (i := 80) (by decide +kernel))), (List.mem_of_getElem? (i := 7) (by decide +kernel))⟩, _, rfl, rfl⟩
theorem lfX7_111 : za_fl RX7 111 2 0 (.int) 2 := ⟨_, _, _, "FeedTower$Item", tyX3, rfl, by decide, (tm_1 (List.mem_of_getElem? (i := 232) (by decide +kernel))), Or.inl rfl, uwX3, tyX3_ok, nmX3, rfl, (fun h => by cases h), fun h => by cases h⟩
theorem lmX7_114 : za_okm RX7 114 (0, 1, 4, 6, mX7_itemAt) := ⟨rfl, ⟨mkX7_itemAt, rfl, (tm_2 (List.mem_of_getElem? (i := 90) (by decide +kernel))), (tm_2 (List.mem_of_getElem? (i := 92) (by decide +kernel))), (List.mem_of_getElem? (i := 9) (by decide +kernel))⟩, _, rfl, rfl⟩
theorem lmX7_118 : za_okm RX7 118 (0, 1, 2, 6, mX3_partAt) := ⟨rfl, ⟨mkX3_partAt, rfl, (tm_3 (List.mem_of_getElem? (i := 4) (by decide +kernel))), (tm_3 (List.mem_of_getElem? (i := 5) (by decide +kernel))), (tm_3 (List.mem_of_getElem? (i := 6) (by decide +kernel)))⟩, _, rfl, rfl⟩
theorem lmX7_122 : za_okm RX7 122 (0, 0, 2, 3, mX3_uncutParts) := ⟨rfl, ⟨mkX3_uncutParts, rfl, (tm_2 (List.mem_of_getElem? (i := 71) (by decide +kernel))), (tm_2 (List.mem_of_getElem? (i := 72) (by decide +kernel))), (tm_2 (List.mem_of_getElem? (i := 73) (by decide +kernel)))⟩, _, rfl, rfl⟩
theorem lfX7_125 : za_fl RX7 125 3 3 (.boolean) 0 := ⟨_, _, _, "FeedTower$Part", tyX4, rfl, by decide, (tm_2 (List.mem_of_getElem? (i := 205) (by decide +kernel))), Or.inl rfl, uwX4, tyX4_ok, nmX4, rfl, fun _ => rfl, fun h => by cases h⟩
theorem lfX7_129 : za_fl RX7 129 2 4 (.boolean) 0 := ⟨_, _, _, "FeedTower$Item", tyX3, rfl, by decide, (tm_2 (List.mem_of_getElem? (i := 0) (by decide +kernel))), Or.inl rfl, uwX3, tyX3_ok, nmX3, rfl, fun _ => rfl, fun h => by cases h⟩
theorem lmX7_136 : za_okm RX7 136 (1, 2, 0, 0, mX7_withBit) := ⟨rfl, mkX7_withBit, (tm_2 (List.mem_of_getElem? (i := 146) (by decide +kernel))), (tm_2 (List.mem_of_getElem? (i := 147) (by decide +kernel)))⟩
theorem lmX7_140 : za_okm RX7 140 (0, 1, 0, 2, mJx4a65c_get_915e3) := ⟨rfl, ⟨mkJx4a65c_get_915e3, rfl, (tm_1 (List.mem_of_getElem? (i := 187) (by decide +kernel))), (tm_1 (List.mem_of_getElem? (i := 188) (by decide +kernel))), (tm_1 (List.mem_of_getElem? (i := 189) (by decide +kernel)))⟩, _, rfl, rfl⟩
theorem lmX7_148 : za_okm RX7 148 (0, 0, 4, 7, mX7_releaseItemsOfThisHour) := ⟨rfl, ⟨mkX7_releaseItemsOfThisHour, rfl, (tm_2 (List.mem_of_getElem? (i := 102) (by decide +kernel))), (tm_2 (List.mem_of_getElem? (i := 104) (by decide +kernel))), (List.mem_of_getElem? (i := 10) (by decide +kernel))⟩, _, rfl, rfl⟩
theorem lnX7_153 : za_nl RX7 153 1 [.int (nI 0), .null, .int (nI 0)] := ⟨_, _, _, tyX0, rfl, (tm_2 (List.mem_of_getElem? (i := 111) (by decide +kernel))), (tm_2 (List.mem_of_getElem? (i := 112) (by decide +kernel))), (tm_1 (List.mem_of_getElem? (i := 10) (by decide +kernel))), uwX0, tyX0_ok, rfl, by decide +kernel⟩
theorem lmX7_155 : za_okm RX7 155 (2, 1, 0, 4, mX0_init) := ⟨rfl, mkX0_init, rfl, rfl, rfl, (tm_2 (List.mem_of_getElem? (i := 113) (by decide +kernel))), (tm_2 (List.mem_of_getElem? (i := 114) (by decide +kernel)))⟩
theorem lmX7_157 : za_okm RX7 157 (0, 1, 4, 6, mX7_appAt) := ⟨rfl, ⟨mkX7_appAt, rfl, (tm_2 (List.mem_of_getElem? (i := 136) (by decide +kernel))), (tm_2 (List.mem_of_getElem? (i := 138) (by decide +kernel))), (List.mem_of_getElem? (i := 11) (by decide +kernel))⟩, _, rfl, rfl⟩
theorem lfX7_161 : za_fl RX7 161 1 1 (.object "java/util/ArrayList") 2 := ⟨_, _, _, "FeedTower$App", tyX0, rfl, by decide, (tm_2 (List.mem_of_getElem? (i := 122) (by decide +kernel))), Or.inl rfl, uwX0, tyX0_ok, nmX0, rfl, (fun h => by cases h), fun h => by cases h⟩
theorem lmX7_164 : za_okm RX7 164 (0, 0, 0, 0, mJx4a65c_clear_da8c8) := ⟨rfl, ⟨mkJx4a65c_clear_da8c8, rfl, (tm_2 (List.mem_of_getElem? (i := 141) (by decide +kernel))), (tm_2 (List.mem_of_getElem? (i := 142) (by decide +kernel))), (tm_2 (List.mem_of_getElem? (i := 143) (by decide +kernel)))⟩, _, rfl, rfl⟩
theorem lfX7_167 : za_fl RX7 167 1 2 (.int) 0 := ⟨_, _, _, "FeedTower$App", tyX0, rfl, by decide, (tm_2 (List.mem_of_getElem? (i := 124) (by decide +kernel))), Or.inl rfl, uwX0, tyX0_ok, nmX0, rfl, fun _ => rfl, fun h => by cases h⟩
theorem lmX7_170 : za_okm RX7 170 (5, 2, 0, 0, mX7_isIn) := ⟨rfl, (tm_2 (List.mem_of_getElem? (i := 145) (by decide +kernel))), (tm_2 (List.mem_of_getElem? (i := 32) (by decide +kernel))), (tm_1 (List.mem_of_getElem? (i := 12) (by decide +kernel))), (tm_2 (List.mem_of_getElem? (i := 33) (by decide +kernel)))⟩
theorem lfX7_175 : za_fl RX7 175 2 1 (.int) 2 := ⟨_, _, _, "FeedTower$Item", tyX3, rfl, by decide, (tm_1 (List.mem_of_getElem? (i := 234) (by decide +kernel))), Or.inl rfl, uwX3, tyX3_ok, nmX3, rfl, (fun h => by cases h), fun h => by cases h⟩
theorem lfX7_178 : za_fl RX7 178 1 0 (.int) 2 := ⟨_, _, _, "FeedTower$App", tyX0, rfl, by decide, (tm_2 (List.mem_of_getElem? (i := 120) (by decide +kernel))), Or.inl rfl, uwX0, tyX0_ok, nmX0, rfl, (fun h => by cases h), fun h => by cases h⟩
theorem lmX7_196 : za_okm RX7 196 (0, 1, 4, 0, mX7_isReleased) := ⟨rfl, ⟨mkX7_isReleased, rfl, (tm_2 (List.mem_of_getElem? (i := 82) (by decide +kernel))), (tm_2 (List.mem_of_getElem? (i := 84) (by decide +kernel))), (List.mem_of_getElem? (i := 8) (by decide +kernel))⟩, _, rfl, rfl⟩
theorem lfX7_207 : za_fl RX7 207 2 3 (.object "java/util/ArrayList") 2 := ⟨_, _, _, "FeedTower$Item", tyX3, rfl, by decide, (tm_1 (List.mem_of_getElem? (i := 238) (by decide +kernel))), Or.inl rfl, uwX3, tyX3_ok, nmX3, rfl, (fun h => by cases h), fun h => by cases h⟩
theorem lfX7_237 : za_fl RX7 237 2 2 (.int) 2 := ⟨_, _, _, "FeedTower$Item", tyX3, rfl, by decide, (tm_1 (List.mem_of_getElem? (i := 236) (by decide +kernel))), Or.inl rfl, uwX3, tyX3_ok, nmX3, rfl, (fun h => by cases h), fun h => by cases h⟩
theorem lmX7_240 : za_okm RX7 240 (0, 0, 2, 3, mX3_uncutSeconds) := ⟨rfl, ⟨mkX3_uncutSeconds, rfl, (tm_2 (List.mem_of_getElem? (i := 157) (by decide +kernel))), (tm_2 (List.mem_of_getElem? (i := 158) (by decide +kernel))), (tm_2 (List.mem_of_getElem? (i := 159) (by decide +kernel)))⟩, _, rfl, rfl⟩
theorem lmX7_243 : za_okm RX7 243 (0, 1, 4, 3, mX7_downloadsOf) := ⟨rfl, ⟨mkX7_downloadsOf, rfl, (tm_2 (List.mem_of_getElem? (i := 161) (by decide +kernel))), (tm_2 (List.mem_of_getElem? (i := 163) (by decide +kernel))), (List.mem_of_getElem? (i := 12) (by decide +kernel))⟩, _, rfl, rfl⟩
theorem lfX7_249 : za_fl RX7 249 3 0 (.int) 2 := ⟨_, _, _, "FeedTower$Part", tyX4, rfl, by decide, (tm_2 (List.mem_of_getElem? (i := 197) (by decide +kernel))), Or.inl rfl, uwX4, tyX4_ok, nmX4, rfl, (fun h => by cases h), fun h => by cases h⟩
theorem lfX7_252 : za_fl RX7 252 3 1 (.int) 2 := ⟨_, _, _, "FeedTower$Part", tyX4, rfl, by decide, (tm_2 (List.mem_of_getElem? (i := 200) (by decide +kernel))), Or.inl rfl, uwX4, tyX4_ok, nmX4, rfl, (fun h => by cases h), fun h => by cases h⟩
theorem lfX7_253 : za_fl RX7 253 3 2 (.int) 2 := ⟨_, _, _, "FeedTower$Part", tyX4, rfl, by decide, (tm_2 (List.mem_of_getElem? (i := 202) (by decide +kernel))), Or.inl rfl, uwX4, tyX4_ok, nmX4, rfl, (fun h => by cases h), fun h => by cases h⟩
theorem lmX7_326 : za_okm RX7 326 (0, 1, 4, 1, mX7_isOut) := ⟨rfl, ⟨mkX7_isOut, rfl, (tm_1 (List.mem_of_getElem? (i := 202) (by decide +kernel))), (tm_1 (List.mem_of_getElem? (i := 204) (by decide +kernel))), (List.mem_of_getElem? (i := 2) (by decide +kernel))⟩, _, rfl, rfl⟩
theorem ltX7_48 : ∀ j ∈ ([50, 74, 77, 82, 92, 132, 134, 144, 146, 151, 247, 258, 308, 310, 316, 318, 324] : List Nat), za_tl RX7 48 j 52 0 := by
  intro j hj
  refine ⟨Or.inl rfl, by decide, ?_, (tm_1 (List.mem_of_getElem? (i := 163) (by decide +kernel))), (tm_1 (List.mem_of_getElem? (i := 17) (by decide +kernel))), by decide +kernel, by decide +kernel, by decide +kernel⟩
  rcases List.mem_cons.mp hj with rfl | hj
  · exact ⟨"seconds is out of range", (tm_2 (List.mem_of_getElem? (i := 190) (by decide +kernel)))⟩
  rcases List.mem_cons.mp hj with rfl | hj
  · exact ⟨"the song is out", (tm_2 (List.mem_of_getElem? (i := 231) (by decide +kernel)))⟩
  rcases List.mem_cons.mp hj with rfl | hj
  · exact ⟨"place is out of range", (tm_2 (List.mem_of_getElem? (i := 236) (by decide +kernel)))⟩
  rcases List.mem_cons.mp hj with rfl | hj
  · exact ⟨"hour is out of range", (tm_1 (List.mem_of_getElem? (i := 172) (by decide +kernel)))⟩
  rcases List.mem_cons.mp hj with rfl | hj
  · exact ⟨"the draft has no part to stay, or there are too many items", (tm_1 (List.mem_of_getElem? (i := 218) (by decide +kernel)))⟩
  rcases List.mem_cons.mp hj with rfl | hj
  · exact ⟨"the part is cut or the only one left, or the item is withdrawn", (tm_3 (List.mem_of_getElem? (i := 15) (by decide +kernel)))⟩
  rcases List.mem_cons.mp hj with rfl | hj
  · exact ⟨"the item is withdrawn", (tm_2 (List.mem_of_getElem? (i := 95) (by decide +kernel)))⟩
  rcases List.mem_cons.mp hj with rfl | hj
  · exact ⟨"hours is out of range", (tm_2 (List.mem_of_getElem? (i := 100) (by decide +kernel)))⟩
  rcases List.mem_cons.mp hj with rfl | hj
  · exact ⟨"the hours come to an end", (tm_2 (List.mem_of_getElem? (i := 101) (by decide +kernel)))⟩
  rcases List.mem_cons.mp hj with rfl | hj
  · exact ⟨"there are too many apps", (tm_2 (List.mem_of_getElem? (i := 110) (by decide +kernel)))⟩
  rcases List.mem_cons.mp hj with rfl | hj
  · exact ⟨"what is out of range", (tm_2 (List.mem_of_getElem? (i := 166) (by decide +kernel)))⟩
  rcases List.mem_cons.mp hj with rfl | hj
  · exact ⟨"at is below 0", (tm_2 (List.mem_of_getElem? (i := 171) (by decide +kernel)))⟩
  rcases List.mem_cons.mp hj with rfl | hj
  · exact ⟨"there is no such show", (tm_1 (List.mem_of_getElem? (i := 133) (by decide +kernel)))⟩
  rcases List.mem_cons.mp hj with rfl | hj
  · exact ⟨"there is no such song", (tm_2 (List.mem_of_getElem? (i := 230) (by decide +kernel)))⟩
  rcases List.mem_cons.mp hj with rfl | hj
  · exact ⟨"there is no such item", (tm_2 (List.mem_of_getElem? (i := 94) (by decide +kernel)))⟩
  rcases List.mem_cons.mp hj with rfl | hj
  · exact ⟨"there is no such app", (tm_2 (List.mem_of_getElem? (i := 140) (by decide +kernel)))⟩
  rcases List.mem_cons.mp hj with rfl | hj
  · exact ⟨"the draft has too many parts", (tm_2 (List.mem_of_getElem? (i := 222) (by decide +kernel)))⟩
  cases hj
theorem ltX7_72 : ∀ j ∈ ([50, 74, 77, 82, 92, 132, 134, 144, 146, 151, 247, 258, 308, 310, 316, 318, 324] : List Nat), za_tl RX7 72 j 76 1 := by
  intro j hj
  refine ⟨Or.inl rfl, by decide, ?_, (tm_1 (List.mem_of_getElem? (i := 209) (by decide +kernel))), (tm_1 (List.mem_of_getElem? (i := 9) (by decide +kernel))), by decide +kernel, by decide +kernel, by decide +kernel⟩
  rcases List.mem_cons.mp hj with rfl | hj
  · exact ⟨"seconds is out of range", (tm_2 (List.mem_of_getElem? (i := 190) (by decide +kernel)))⟩
  rcases List.mem_cons.mp hj with rfl | hj
  · exact ⟨"the song is out", (tm_2 (List.mem_of_getElem? (i := 231) (by decide +kernel)))⟩
  rcases List.mem_cons.mp hj with rfl | hj
  · exact ⟨"place is out of range", (tm_2 (List.mem_of_getElem? (i := 236) (by decide +kernel)))⟩
  rcases List.mem_cons.mp hj with rfl | hj
  · exact ⟨"hour is out of range", (tm_1 (List.mem_of_getElem? (i := 172) (by decide +kernel)))⟩
  rcases List.mem_cons.mp hj with rfl | hj
  · exact ⟨"the draft has no part to stay, or there are too many items", (tm_1 (List.mem_of_getElem? (i := 218) (by decide +kernel)))⟩
  rcases List.mem_cons.mp hj with rfl | hj
  · exact ⟨"the part is cut or the only one left, or the item is withdrawn", (tm_3 (List.mem_of_getElem? (i := 15) (by decide +kernel)))⟩
  rcases List.mem_cons.mp hj with rfl | hj
  · exact ⟨"the item is withdrawn", (tm_2 (List.mem_of_getElem? (i := 95) (by decide +kernel)))⟩
  rcases List.mem_cons.mp hj with rfl | hj
  · exact ⟨"hours is out of range", (tm_2 (List.mem_of_getElem? (i := 100) (by decide +kernel)))⟩
  rcases List.mem_cons.mp hj with rfl | hj
  · exact ⟨"the hours come to an end", (tm_2 (List.mem_of_getElem? (i := 101) (by decide +kernel)))⟩
  rcases List.mem_cons.mp hj with rfl | hj
  · exact ⟨"there are too many apps", (tm_2 (List.mem_of_getElem? (i := 110) (by decide +kernel)))⟩
  rcases List.mem_cons.mp hj with rfl | hj
  · exact ⟨"what is out of range", (tm_2 (List.mem_of_getElem? (i := 166) (by decide +kernel)))⟩
  rcases List.mem_cons.mp hj with rfl | hj
  · exact ⟨"at is below 0", (tm_2 (List.mem_of_getElem? (i := 171) (by decide +kernel)))⟩
  rcases List.mem_cons.mp hj with rfl | hj
  · exact ⟨"there is no such show", (tm_1 (List.mem_of_getElem? (i := 133) (by decide +kernel)))⟩
  rcases List.mem_cons.mp hj with rfl | hj
  · exact ⟨"there is no such song", (tm_2 (List.mem_of_getElem? (i := 230) (by decide +kernel)))⟩
  rcases List.mem_cons.mp hj with rfl | hj
  · exact ⟨"there is no such item", (tm_2 (List.mem_of_getElem? (i := 94) (by decide +kernel)))⟩
  rcases List.mem_cons.mp hj with rfl | hj
  · exact ⟨"there is no such app", (tm_2 (List.mem_of_getElem? (i := 140) (by decide +kernel)))⟩
  rcases List.mem_cons.mp hj with rfl | hj
  · exact ⟨"the draft has too many parts", (tm_2 (List.mem_of_getElem? (i := 222) (by decide +kernel)))⟩
  cases hj
theorem ltX7_256 : ∀ j ∈ ([50, 74, 77, 82, 92, 132, 134, 144, 146, 151, 247, 258, 308, 310, 316, 318, 324] : List Nat), za_tl RX7 256 j 260 2 := by
  intro j hj
  refine ⟨Or.inl rfl, by decide, ?_, (tm_1 (List.mem_of_getElem? (i := 92) (by decide +kernel))), (tm_1 (List.mem_of_getElem? (i := 8) (by decide +kernel))), by decide +kernel, by decide +kernel, by decide +kernel⟩
  rcases List.mem_cons.mp hj with rfl | hj
  · exact ⟨"seconds is out of range", (tm_2 (List.mem_of_getElem? (i := 190) (by decide +kernel)))⟩
  rcases List.mem_cons.mp hj with rfl | hj
  · exact ⟨"the song is out", (tm_2 (List.mem_of_getElem? (i := 231) (by decide +kernel)))⟩
  rcases List.mem_cons.mp hj with rfl | hj
  · exact ⟨"place is out of range", (tm_2 (List.mem_of_getElem? (i := 236) (by decide +kernel)))⟩
  rcases List.mem_cons.mp hj with rfl | hj
  · exact ⟨"hour is out of range", (tm_1 (List.mem_of_getElem? (i := 172) (by decide +kernel)))⟩
  rcases List.mem_cons.mp hj with rfl | hj
  · exact ⟨"the draft has no part to stay, or there are too many items", (tm_1 (List.mem_of_getElem? (i := 218) (by decide +kernel)))⟩
  rcases List.mem_cons.mp hj with rfl | hj
  · exact ⟨"the part is cut or the only one left, or the item is withdrawn", (tm_3 (List.mem_of_getElem? (i := 15) (by decide +kernel)))⟩
  rcases List.mem_cons.mp hj with rfl | hj
  · exact ⟨"the item is withdrawn", (tm_2 (List.mem_of_getElem? (i := 95) (by decide +kernel)))⟩
  rcases List.mem_cons.mp hj with rfl | hj
  · exact ⟨"hours is out of range", (tm_2 (List.mem_of_getElem? (i := 100) (by decide +kernel)))⟩
  rcases List.mem_cons.mp hj with rfl | hj
  · exact ⟨"the hours come to an end", (tm_2 (List.mem_of_getElem? (i := 101) (by decide +kernel)))⟩
  rcases List.mem_cons.mp hj with rfl | hj
  · exact ⟨"there are too many apps", (tm_2 (List.mem_of_getElem? (i := 110) (by decide +kernel)))⟩
  rcases List.mem_cons.mp hj with rfl | hj
  · exact ⟨"what is out of range", (tm_2 (List.mem_of_getElem? (i := 166) (by decide +kernel)))⟩
  rcases List.mem_cons.mp hj with rfl | hj
  · exact ⟨"at is below 0", (tm_2 (List.mem_of_getElem? (i := 171) (by decide +kernel)))⟩
  rcases List.mem_cons.mp hj with rfl | hj
  · exact ⟨"there is no such show", (tm_1 (List.mem_of_getElem? (i := 133) (by decide +kernel)))⟩
  rcases List.mem_cons.mp hj with rfl | hj
  · exact ⟨"there is no such song", (tm_2 (List.mem_of_getElem? (i := 230) (by decide +kernel)))⟩
  rcases List.mem_cons.mp hj with rfl | hj
  · exact ⟨"there is no such item", (tm_2 (List.mem_of_getElem? (i := 94) (by decide +kernel)))⟩
  rcases List.mem_cons.mp hj with rfl | hj
  · exact ⟨"there is no such app", (tm_2 (List.mem_of_getElem? (i := 140) (by decide +kernel)))⟩
  rcases List.mem_cons.mp hj with rfl | hj
  · exact ⟨"the draft has too many parts", (tm_2 (List.mem_of_getElem? (i := 222) (by decide +kernel)))⟩
  cases hj
def flX7 : List (Nat × (Nat × Nat × FieldType × Nat)) := [(10, (4, 0, .object "java/util/ArrayList", 1)), (16, (4, 1, .object "java/util/ArrayList", 1)), (19, (4, 2, .object "java/util/ArrayList", 1)), (22, (4, 3, .object "java/util/ArrayList", 1)), (25, (4, 4, .object "java/util/ArrayList", 1)), (28, (4, 5, .object "java/util/ArrayList", 0)), (31, (4, 6, .int, 0)), (35, (4, 7, .int, 0)), (38, (4, 8, .int, 0)), (41, (4, 9, .int, 0)), (111, (2, 0, .int, 2)), (125, (3, 3, .boolean, 0)), (129, (2, 4, .boolean, 0)), (161, (1, 1, .object "java/util/ArrayList", 2)), (167, (1, 2, .int, 0)), (175, (2, 1, .int, 2)), (178, (1, 0, .int, 2)), (207, (2, 3, .object "java/util/ArrayList", 2)), (237, (2, 2, .int, 2)), (249, (3, 0, .int, 2)), (252, (3, 1, .int, 2)), (253, (3, 2, .int, 2))]
def mtX7 : List (Nat × (Nat × Nat × Nat × Nat × za_M)) := [(1, (4, 0, 0, 0, mX7_isIn)), (9, (2, 0, 0, 3, mJx4a65c_init_da8c8)), (44, (1, 3, 0, 0, mX7_isIn)), (57, (2, 3, 0, 1, mX4_init)), (60, (0, 1, 4, 7, mX7_addToDraft)), (64, (1, 1, 0, 6, mX7_needSong)), (68, (1, 2, 0, 0, mX7_hasBit)), (79, (1, 1, 0, 6, mX7_needShow)), (84, (0, 0, 4, 3, mX7_isDraftOfUse)), (88, (0, 0, 0, 0, mJx4a65c_size_8abf5)), (96, (2, 4, 0, 1, mX3_init)), (99, (0, 1, 0, 6, mJx4a65c_add_9ea2d)), (103, (0, 1, 4, 4, mX7_cutWhatIsOut)), (107, (0, 1, 4, 7, mX7_noteChange)), (114, (0, 1, 4, 6, mX7_itemAt)), (118, (0, 1, 2, 6, mX3_partAt)), (122, (0, 0, 2, 3, mX3_uncutParts)), (136, (1, 2, 0, 0, mX7_withBit)), (140, (0, 1, 0, 2, mJx4a65c_get_915e3)), (148, (0, 0, 4, 7, mX7_releaseItemsOfThisHour)), (155, (2, 1, 0, 4, mX0_init)), (157, (0, 1, 4, 6, mX7_appAt)), (164, (0, 0, 0, 0, mJx4a65c_clear_da8c8)), (170, (5, 2, 0, 0, mX7_isIn)), (196, (0, 1, 4, 0, mX7_isReleased)), (240, (0, 0, 2, 3, mX3_uncutSeconds)), (243, (0, 1, 4, 3, mX7_downloadsOf)), (326, (0, 1, 4, 1, mX7_isOut))]
def nwX7 : List (Nat × (Nat × List Value)) := [(7, (0, [.int (nI 0), .null, .int (nI 0)])), (55, (3, [.int (nI 0), .int (nI 0), .int (nI 0), .int (nI 0), .int (nI 0)])), (94, (2, [.int (nI 0), .int (nI 0), .int (nI 0), .null, .int (nI 0)])), (153, (1, [.int (nI 0), .null, .int (nI 0)]))]
def thX7 : List (Nat × (Nat × Nat)) := [(48, (0, 52)), (72, (1, 76)), (256, (2, 260))]
def ckX7 : List (Nat × Nat) := [(55, 3), (94, 2), (153, 1)]
def cnX7 : List (Nat × Int32) := []
def lkX7 : za_LK := (za_lu flX7, za_lu mtX7, za_lu nwX7, za_lu thX7, (fun i => ([50, 74, 77, 82, 92, 132, 134, 144, 146, 151, 247, 258, 308, 310, 316, 318, 324] : List Nat).elem i), za_lu ckX7, za_lu cnX7)
theorem okX7 : za_lk RX7 lkX7 := ⟨za_lu_ok (l := flX7) (Q := fun i q => za_fl RX7 i q.1 q.2.1 q.2.2.1 q.2.2.2) (za_cons lfX7_10 (za_cons lfX7_16 (za_cons lfX7_19 (za_cons lfX7_22 (za_cons lfX7_25 (za_cons lfX7_28 (za_cons lfX7_31 (za_cons lfX7_35 (za_cons lfX7_38 (za_cons lfX7_41 (za_cons lfX7_111 (za_cons lfX7_125 (za_cons lfX7_129 (za_cons lfX7_161 (za_cons lfX7_167 (za_cons lfX7_175 (za_cons lfX7_178 (za_cons lfX7_207 (za_cons lfX7_237 (za_cons lfX7_249 (za_cons lfX7_252 (za_cons lfX7_253 za_nil)))))))))))))))))))))), za_lu_ok (l := mtX7) (Q := za_okm RX7) (za_cons lmX7_1 (za_cons lmX7_9 (za_cons lmX7_44 (za_cons lmX7_57 (za_cons lmX7_60 (za_cons lmX7_64 (za_cons lmX7_68 (za_cons lmX7_79 (za_cons lmX7_84 (za_cons lmX7_88 (za_cons lmX7_96 (za_cons lmX7_99 (za_cons lmX7_103 (za_cons lmX7_107 (za_cons lmX7_114 (za_cons lmX7_118 (za_cons lmX7_122 (za_cons lmX7_136 (za_cons lmX7_140 (za_cons lmX7_148 (za_cons lmX7_155 (za_cons lmX7_157 (za_cons lmX7_164 (za_cons lmX7_170 (za_cons lmX7_196 (za_cons lmX7_240 (za_cons lmX7_243 (za_cons lmX7_326 za_nil)))))))))))))))))))))))))))), za_lu_ok (l := nwX7) (Q := fun i q => za_nl RX7 i q.1 q.2) (za_cons lnX7_7 (za_cons lnX7_55 (za_cons lnX7_94 (za_cons lnX7_153 za_nil)))), fun i q j h hj => za_lu_ok (l := thX7) (Q := fun i q => ∀ j, ([50, 74, 77, 82, 92, 132, 134, 144, 146, 151, 247, 258, 308, 310, 316, 318, 324] : List Nat).elem j = true → za_tl RX7 i j q.2 q.1) (za_cons (fun j hj => ltX7_48 j (List.elem_iff.mp hj)) (za_cons (fun j hj => ltX7_72 j (List.elem_iff.mp hj)) (za_cons (fun j hj => ltX7_256 j (List.elem_iff.mp hj)) za_nil))) i q h j hj, za_lu_ok (l := ckX7) (Q := fun i ci => ∃ r, vwCl[ci]? = some r ∧ Jvm.Cond.classLink RX7 i r.1 ∈ lw_tbl) (za_cons ⟨_, rfl, (tm_1 (List.mem_of_getElem? (i := 201) (by decide +kernel)))⟩ (za_cons ⟨_, rfl, (tm_1 (List.mem_of_getElem? (i := 225) (by decide +kernel)))⟩ (za_cons ⟨_, rfl, (tm_2 (List.mem_of_getElem? (i := 111) (by decide +kernel)))⟩ za_nil))), za_lu_ok (l := cnX7) (Q := fun i v => Jvm.Cond.constant RX7 i v ∈ lw_tbl) za_nil⟩
theorem uX7_f10 : za_LK.fl lkX7 10 = some (4, 0, .object "java/util/ArrayList", 1) := rfl
theorem uX7_f16 : za_LK.fl lkX7 16 = some (4, 1, .object "java/util/ArrayList", 1) := rfl
theorem uX7_f19 : za_LK.fl lkX7 19 = some (4, 2, .object "java/util/ArrayList", 1) := rfl
theorem uX7_f22 : za_LK.fl lkX7 22 = some (4, 3, .object "java/util/ArrayList", 1) := rfl
theorem uX7_f25 : za_LK.fl lkX7 25 = some (4, 4, .object "java/util/ArrayList", 1) := rfl
theorem uX7_f28 : za_LK.fl lkX7 28 = some (4, 5, .object "java/util/ArrayList", 0) := rfl
theorem uX7_f31 : za_LK.fl lkX7 31 = some (4, 6, .int, 0) := rfl
theorem uX7_f35 : za_LK.fl lkX7 35 = some (4, 7, .int, 0) := rfl
theorem uX7_f38 : za_LK.fl lkX7 38 = some (4, 8, .int, 0) := rfl
theorem uX7_f41 : za_LK.fl lkX7 41 = some (4, 9, .int, 0) := rfl
theorem uX7_f111 : za_LK.fl lkX7 111 = some (2, 0, .int, 2) := rfl
theorem uX7_f125 : za_LK.fl lkX7 125 = some (3, 3, .boolean, 0) := rfl
theorem uX7_f129 : za_LK.fl lkX7 129 = some (2, 4, .boolean, 0) := rfl
theorem uX7_f161 : za_LK.fl lkX7 161 = some (1, 1, .object "java/util/ArrayList", 2) := rfl
theorem uX7_f167 : za_LK.fl lkX7 167 = some (1, 2, .int, 0) := rfl
theorem uX7_f175 : za_LK.fl lkX7 175 = some (2, 1, .int, 2) := rfl
theorem uX7_f178 : za_LK.fl lkX7 178 = some (1, 0, .int, 2) := rfl
theorem uX7_f207 : za_LK.fl lkX7 207 = some (2, 3, .object "java/util/ArrayList", 2) := rfl
theorem uX7_f237 : za_LK.fl lkX7 237 = some (2, 2, .int, 2) := rfl
theorem uX7_f249 : za_LK.fl lkX7 249 = some (3, 0, .int, 2) := rfl
theorem uX7_f252 : za_LK.fl lkX7 252 = some (3, 1, .int, 2) := rfl
theorem uX7_f253 : za_LK.fl lkX7 253 = some (3, 2, .int, 2) := rfl
theorem uX7_m1 : za_LK.mt lkX7 1 = some (4, 0, 0, 0, mX7_isIn) := rfl
theorem uX7_m9 : za_LK.mt lkX7 9 = some (2, 0, 0, 3, mJx4a65c_init_da8c8) := rfl
theorem uX7_m44 : za_LK.mt lkX7 44 = some (1, 3, 0, 0, mX7_isIn) := rfl
theorem uX7_m57 : za_LK.mt lkX7 57 = some (2, 3, 0, 1, mX4_init) := rfl
theorem uX7_m60 : za_LK.mt lkX7 60 = some (0, 1, 4, 7, mX7_addToDraft) := rfl
theorem uX7_m64 : za_LK.mt lkX7 64 = some (1, 1, 0, 6, mX7_needSong) := rfl
theorem uX7_m68 : za_LK.mt lkX7 68 = some (1, 2, 0, 0, mX7_hasBit) := rfl
theorem uX7_m79 : za_LK.mt lkX7 79 = some (1, 1, 0, 6, mX7_needShow) := rfl
theorem uX7_m84 : za_LK.mt lkX7 84 = some (0, 0, 4, 3, mX7_isDraftOfUse) := rfl
theorem uX7_m88 : za_LK.mt lkX7 88 = some (0, 0, 0, 0, mJx4a65c_size_8abf5) := rfl
theorem uX7_m96 : za_LK.mt lkX7 96 = some (2, 4, 0, 1, mX3_init) := rfl
theorem uX7_m99 : za_LK.mt lkX7 99 = some (0, 1, 0, 6, mJx4a65c_add_9ea2d) := rfl
theorem uX7_m103 : za_LK.mt lkX7 103 = some (0, 1, 4, 4, mX7_cutWhatIsOut) := rfl
theorem uX7_m107 : za_LK.mt lkX7 107 = some (0, 1, 4, 7, mX7_noteChange) := rfl
theorem uX7_m114 : za_LK.mt lkX7 114 = some (0, 1, 4, 6, mX7_itemAt) := rfl
theorem uX7_m118 : za_LK.mt lkX7 118 = some (0, 1, 2, 6, mX3_partAt) := rfl
theorem uX7_m122 : za_LK.mt lkX7 122 = some (0, 0, 2, 3, mX3_uncutParts) := rfl
theorem uX7_m136 : za_LK.mt lkX7 136 = some (1, 2, 0, 0, mX7_withBit) := rfl
theorem uX7_m140 : za_LK.mt lkX7 140 = some (0, 1, 0, 2, mJx4a65c_get_915e3) := rfl
theorem uX7_m148 : za_LK.mt lkX7 148 = some (0, 0, 4, 7, mX7_releaseItemsOfThisHour) := rfl
theorem uX7_m155 : za_LK.mt lkX7 155 = some (2, 1, 0, 4, mX0_init) := rfl
theorem uX7_m157 : za_LK.mt lkX7 157 = some (0, 1, 4, 6, mX7_appAt) := rfl
theorem uX7_m164 : za_LK.mt lkX7 164 = some (0, 0, 0, 0, mJx4a65c_clear_da8c8) := rfl
theorem uX7_m170 : za_LK.mt lkX7 170 = some (5, 2, 0, 0, mX7_isIn) := rfl
theorem uX7_m196 : za_LK.mt lkX7 196 = some (0, 1, 4, 0, mX7_isReleased) := rfl
theorem uX7_m240 : za_LK.mt lkX7 240 = some (0, 0, 2, 3, mX3_uncutSeconds) := rfl
theorem uX7_m243 : za_LK.mt lkX7 243 = some (0, 1, 4, 3, mX7_downloadsOf) := rfl
theorem uX7_m326 : za_LK.mt lkX7 326 = some (0, 1, 4, 1, mX7_isOut) := rfl
theorem uX7_n7 : za_LK.nw lkX7 7 = some (0, [.int (nI 0), .null, .int (nI 0)]) := rfl
theorem uX7_n55 : za_LK.nw lkX7 55 = some (3, [.int (nI 0), .int (nI 0), .int (nI 0), .int (nI 0), .int (nI 0)]) := rfl
theorem uX7_n94 : za_LK.nw lkX7 94 = some (2, [.int (nI 0), .int (nI 0), .int (nI 0), .null, .int (nI 0)]) := rfl
theorem uX7_n153 : za_LK.nw lkX7 153 = some (1, [.int (nI 0), .null, .int (nI 0)]) := rfl
theorem uX7_n48 : za_LK.nw lkX7 48 = none := rfl
theorem uX7_t48 : za_LK.th lkX7 48 = some (0, 52) := rfl
theorem uX7_n72 : za_LK.nw lkX7 72 = none := rfl
theorem uX7_t72 : za_LK.th lkX7 72 = some (1, 76) := rfl
theorem uX7_n256 : za_LK.nw lkX7 256 = none := rfl
theorem uX7_t256 : za_LK.th lkX7 256 = some (2, 260) := rfl
theorem uX7_s50 : za_LK.sx lkX7 50 = true := rfl
theorem uX7_s74 : za_LK.sx lkX7 74 = true := rfl
theorem uX7_s77 : za_LK.sx lkX7 77 = true := rfl
theorem uX7_s82 : za_LK.sx lkX7 82 = true := rfl
theorem uX7_s92 : za_LK.sx lkX7 92 = true := rfl
theorem uX7_s132 : za_LK.sx lkX7 132 = true := rfl
theorem uX7_s134 : za_LK.sx lkX7 134 = true := rfl
theorem uX7_s144 : za_LK.sx lkX7 144 = true := rfl
theorem uX7_s146 : za_LK.sx lkX7 146 = true := rfl
theorem uX7_s151 : za_LK.sx lkX7 151 = true := rfl
theorem uX7_s247 : za_LK.sx lkX7 247 = true := rfl
theorem uX7_s258 : za_LK.sx lkX7 258 = true := rfl
theorem uX7_s308 : za_LK.sx lkX7 308 = true := rfl
theorem uX7_s310 : za_LK.sx lkX7 310 = true := rfl
theorem uX7_s316 : za_LK.sx lkX7 316 = true := rfl
theorem uX7_s318 : za_LK.sx lkX7 318 = true := rfl
theorem uX7_s324 : za_LK.sx lkX7 324 = true := rfl
theorem uX7_c55 : za_LK.ck lkX7 55 = some 3 := rfl
theorem uX7_c94 : za_LK.ck lkX7 94 = some 2 := rfl
theorem uX7_c153 : za_LK.ck lkX7 153 = some 1 := rfl
end
section
theorem lmL_9 : za_okm RL 9 (0, 2, 4, 7, mX7_ofItem) := ⟨rfl, ⟨mkX7_ofItem, rfl, (tm_2 (List.mem_of_getElem? (i := 153) (by decide +kernel))), (tm_2 (List.mem_of_getElem? (i := 154) (by decide +kernel))), (tm_2 (List.mem_of_getElem? (i := 155) (by decide +kernel)))⟩, _, rfl, rfl⟩
theorem lnL_10 : za_nl RL 10 4 [.null, .null, .null, .null, .null, .null, .int (nI 0), .int (nI 0), .int (nI 0), .int (nI 0)] := ⟨_, _, _, tyX7, rfl, (tm_1 (List.mem_of_getElem? (i := 20) (by decide +kernel))), (tm_1 (List.mem_of_getElem? (i := 21) (by decide +kernel))), (tm_1 (List.mem_of_getElem? (i := 1) (by decide +kernel))), uwX7, tyX7_ok, rfl, by decide +kernel⟩
theorem lmL_15 : za_okm RL 15 (0, 1, 4, 7, mX7_poll) := ⟨rfl, ⟨mkX7_poll, rfl, (tm_2 (List.mem_of_getElem? (i := 132) (by decide +kernel))), (tm_2 (List.mem_of_getElem? (i := 133) (by decide +kernel))), (tm_2 (List.mem_of_getElem? (i := 134) (by decide +kernel)))⟩, _, rfl, rfl⟩
theorem lmL_19 : za_okm RL 19 (0, 2, 4, 7, mX7_told) := ⟨rfl, ⟨mkX7_told, rfl, (tm_2 (List.mem_of_getElem? (i := 167) (by decide +kernel))), (tm_2 (List.mem_of_getElem? (i := 168) (by decide +kernel))), (tm_2 (List.mem_of_getElem? (i := 169) (by decide +kernel)))⟩, _, rfl, rfl⟩
theorem lmL_22 : za_okm RL 22 (0, 1, 4, 8, mX7_talk) := ⟨rfl, ⟨mkX7_talk, rfl, (tm_2 (List.mem_of_getElem? (i := 186) (by decide +kernel))), (tm_2 (List.mem_of_getElem? (i := 187) (by decide +kernel))), (tm_2 (List.mem_of_getElem? (i := 188) (by decide +kernel)))⟩, _, rfl, rfl⟩
theorem lmL_25 : za_okm RL 25 (0, 2, 4, 8, mX7_music) := ⟨rfl, ⟨mkX7_music, rfl, (tm_2 (List.mem_of_getElem? (i := 223) (by decide +kernel))), (tm_2 (List.mem_of_getElem? (i := 224) (by decide +kernel))), (tm_2 (List.mem_of_getElem? (i := 225) (by decide +kernel)))⟩, _, rfl, rfl⟩
theorem lmL_28 : za_okm RL 28 (0, 1, 4, 8, mX7_slot) := ⟨rfl, ⟨mkX7_slot, rfl, (tm_2 (List.mem_of_getElem? (i := 232) (by decide +kernel))), (tm_2 (List.mem_of_getElem? (i := 233) (by decide +kernel))), (tm_2 (List.mem_of_getElem? (i := 234) (by decide +kernel)))⟩, _, rfl, rfl⟩
theorem lmL_31 : za_okm RL 31 (0, 3, 4, 7, mX7_ofPart) := ⟨rfl, ⟨mkX7_ofPart, rfl, (tm_3 (List.mem_of_getElem? (i := 0) (by decide +kernel))), (tm_3 (List.mem_of_getElem? (i := 1) (by decide +kernel))), (tm_3 (List.mem_of_getElem? (i := 2) (by decide +kernel)))⟩, _, rfl, rfl⟩
theorem lmL_35 : za_okm RL 35 (0, 2, 4, 8, mX7_cut) := ⟨rfl, ⟨mkX7_cut, rfl, (tm_3 (List.mem_of_getElem? (i := 11) (by decide +kernel))), (tm_3 (List.mem_of_getElem? (i := 12) (by decide +kernel))), (tm_3 (List.mem_of_getElem? (i := 13) (by decide +kernel)))⟩, _, rfl, rfl⟩
theorem lmL_38 : za_okm RL 38 (1, 4, 0, 8, mL_note) := ⟨rfl, mkL_note, (tm_2 (List.mem_of_getElem? (i := 177) (by decide +kernel))), (tm_2 (List.mem_of_getElem? (i := 178) (by decide +kernel)))⟩
theorem lmL_44 : za_okm RL 44 (0, 1, 4, 8, mX7_songOut) := ⟨rfl, ⟨mkX7_songOut, rfl, (tm_3 (List.mem_of_getElem? (i := 19) (by decide +kernel))), (tm_3 (List.mem_of_getElem? (i := 20) (by decide +kernel))), (tm_3 (List.mem_of_getElem? (i := 21) (by decide +kernel)))⟩, _, rfl, rfl⟩
theorem lmL_47 : za_okm RL 47 (2, 0, 0, 4, mX7_init) := ⟨rfl, mkX7_init, rfl, rfl, rfl, (tm_1 (List.mem_of_getElem? (i := 22) (by decide +kernel))), (tm_1 (List.mem_of_getElem? (i := 23) (by decide +kernel)))⟩
theorem lmL_48 : za_okm RL 48 (0, 1, 4, 7, mX7_app) := ⟨rfl, ⟨mkX7_app, rfl, (tm_2 (List.mem_of_getElem? (i := 106) (by decide +kernel))), (tm_2 (List.mem_of_getElem? (i := 107) (by decide +kernel))), (tm_2 (List.mem_of_getElem? (i := 108) (by decide +kernel)))⟩, _, rfl, rfl⟩
theorem lmL_51 : za_okm RL 51 (1, 2, 0, 0, mL_told) := ⟨rfl, mkL_told, (tm_2 (List.mem_of_getElem? (i := 172) (by decide +kernel))), (tm_2 (List.mem_of_getElem? (i := 173) (by decide +kernel)))⟩
theorem lmL_54 : za_okm RL 54 (1, 3, 0, 9, mL_draft) := ⟨rfl, mkL_draft, (tm_2 (List.mem_of_getElem? (i := 183) (by decide +kernel))), (tm_2 (List.mem_of_getElem? (i := 184) (by decide +kernel)))⟩
theorem lmL_58 : za_okm RL 58 (0, 0, 4, 0, mX7_hour) := ⟨rfl, ⟨mkX7_hour, rfl, (tm_2 (List.mem_of_getElem? (i := 149) (by decide +kernel))), (tm_2 (List.mem_of_getElem? (i := 150) (by decide +kernel))), (tm_2 (List.mem_of_getElem? (i := 151) (by decide +kernel)))⟩, _, rfl, rfl⟩
theorem lmL_63 : za_okm RL 63 (0, 2, 4, 8, mX7_item) := ⟨rfl, ⟨mkX7_item, rfl, (tm_1 (List.mem_of_getElem? (i := 85) (by decide +kernel))), (tm_1 (List.mem_of_getElem? (i := 86) (by decide +kernel))), (tm_1 (List.mem_of_getElem? (i := 87) (by decide +kernel)))⟩, _, rfl, rfl⟩
theorem lmL_66 : za_okm RL 66 (0, 1, 4, 8, mX7_pass) := ⟨rfl, ⟨mkX7_pass, rfl, (tm_2 (List.mem_of_getElem? (i := 96) (by decide +kernel))), (tm_2 (List.mem_of_getElem? (i := 97) (by decide +kernel))), (tm_2 (List.mem_of_getElem? (i := 98) (by decide +kernel)))⟩, _, rfl, rfl⟩
theorem lmL_69 : za_okm RL 69 (0, 1, 4, 8, mX7_withdraw) := ⟨rfl, ⟨mkX7_withdraw, rfl, (tm_2 (List.mem_of_getElem? (i := 86) (by decide +kernel))), (tm_2 (List.mem_of_getElem? (i := 87) (by decide +kernel))), (tm_2 (List.mem_of_getElem? (i := 88) (by decide +kernel)))⟩, _, rfl, rfl⟩
theorem lmL_73 : za_okm RL 73 (1, 5, 0, 9, mL_goesOut) := ⟨rfl, mkL_goesOut, (tm_3 (List.mem_of_getElem? (i := 16) (by decide +kernel))), (tm_3 (List.mem_of_getElem? (i := 17) (by decide +kernel)))⟩
theorem lmL_77 : za_okm RL 77 (1, 5, 0, 9, mL_cuts) := ⟨rfl, mkL_cuts, (tm_2 (List.mem_of_getElem? (i := 237) (by decide +kernel))), (tm_2 (List.mem_of_getElem? (i := 238) (by decide +kernel)))⟩
theorem lmL_80 : za_okm RL 80 (1, 4, 0, 8, mL_isPolled) := ⟨rfl, mkL_isPolled, (tm_2 (List.mem_of_getElem? (i := 180) (by decide +kernel))), (tm_2 (List.mem_of_getElem? (i := 181) (by decide +kernel)))⟩
def flL : List (Nat × (Nat × Nat × FieldType × Nat)) := []
def mtL : List (Nat × (Nat × Nat × Nat × Nat × za_M)) := [(9, (0, 2, 4, 7, mX7_ofItem)), (15, (0, 1, 4, 7, mX7_poll)), (19, (0, 2, 4, 7, mX7_told)), (22, (0, 1, 4, 8, mX7_talk)), (25, (0, 2, 4, 8, mX7_music)), (28, (0, 1, 4, 8, mX7_slot)), (31, (0, 3, 4, 7, mX7_ofPart)), (35, (0, 2, 4, 8, mX7_cut)), (38, (1, 4, 0, 8, mL_note)), (44, (0, 1, 4, 8, mX7_songOut)), (47, (2, 0, 0, 4, mX7_init)), (48, (0, 1, 4, 7, mX7_app)), (51, (1, 2, 0, 0, mL_told)), (54, (1, 3, 0, 9, mL_draft)), (58, (0, 0, 4, 0, mX7_hour)), (63, (0, 2, 4, 8, mX7_item)), (66, (0, 1, 4, 8, mX7_pass)), (69, (0, 1, 4, 8, mX7_withdraw)), (73, (1, 5, 0, 9, mL_goesOut)), (77, (1, 5, 0, 9, mL_cuts)), (80, (1, 4, 0, 8, mL_isPolled))]
def nwL : List (Nat × (Nat × List Value)) := [(10, (4, [.null, .null, .null, .null, .null, .null, .int (nI 0), .int (nI 0), .int (nI 0), .int (nI 0)]))]
def thL : List (Nat × (Nat × Nat)) := []
def ckL : List (Nat × Nat) := []
def cnL : List (Nat × Int32) := [(7, 40009), (8, 2147483647), (62, 65536)]
def lkL : za_LK := (za_lu flL, za_lu mtL, za_lu nwL, za_lu thL, (fun i => ([] : List Nat).elem i), za_lu ckL, za_lu cnL)
theorem okL : za_lk RL lkL := ⟨za_lu_ok (l := flL) (Q := fun i q => za_fl RL i q.1 q.2.1 q.2.2.1 q.2.2.2) za_nil, za_lu_ok (l := mtL) (Q := za_okm RL) (za_cons lmL_9 (za_cons lmL_15 (za_cons lmL_19 (za_cons lmL_22 (za_cons lmL_25 (za_cons lmL_28 (za_cons lmL_31 (za_cons lmL_35 (za_cons lmL_38 (za_cons lmL_44 (za_cons lmL_47 (za_cons lmL_48 (za_cons lmL_51 (za_cons lmL_54 (za_cons lmL_58 (za_cons lmL_63 (za_cons lmL_66 (za_cons lmL_69 (za_cons lmL_73 (za_cons lmL_77 (za_cons lmL_80 za_nil))))))))))))))))))))), za_lu_ok (l := nwL) (Q := fun i q => za_nl RL i q.1 q.2) (za_cons lnL_10 za_nil), fun i q j h hj => za_lu_ok (l := thL) (Q := fun i q => ∀ j, ([] : List Nat).elem j = true → za_tl RL i j q.2 q.1) za_nil i q h j hj, za_lu_ok (l := ckL) (Q := fun i ci => ∃ r, vwCl[ci]? = some r ∧ Jvm.Cond.classLink RL i r.1 ∈ lw_tbl) za_nil, za_lu_ok (l := cnL) (Q := fun i v => Jvm.Cond.constant RL i v ∈ lw_tbl) (za_cons (tm_2 (List.mem_of_getElem? (i := 175) (by decide +kernel))) (za_cons (tm_2 (List.mem_of_getElem? (i := 176) (by decide +kernel))) (za_cons (tm_3 (List.mem_of_getElem? (i := 24) (by decide +kernel))) za_nil)))⟩
theorem uL_m9 : za_LK.mt lkL 9 = some (0, 2, 4, 7, mX7_ofItem) := rfl
theorem uL_m15 : za_LK.mt lkL 15 = some (0, 1, 4, 7, mX7_poll) := rfl
theorem uL_m19 : za_LK.mt lkL 19 = some (0, 2, 4, 7, mX7_told) := rfl
theorem uL_m22 : za_LK.mt lkL 22 = some (0, 1, 4, 8, mX7_talk) := rfl
theorem uL_m25 : za_LK.mt lkL 25 = some (0, 2, 4, 8, mX7_music) := rfl
theorem uL_m28 : za_LK.mt lkL 28 = some (0, 1, 4, 8, mX7_slot) := rfl
theorem uL_m31 : za_LK.mt lkL 31 = some (0, 3, 4, 7, mX7_ofPart) := rfl
theorem uL_m35 : za_LK.mt lkL 35 = some (0, 2, 4, 8, mX7_cut) := rfl
theorem uL_m38 : za_LK.mt lkL 38 = some (1, 4, 0, 8, mL_note) := rfl
theorem uL_m44 : za_LK.mt lkL 44 = some (0, 1, 4, 8, mX7_songOut) := rfl
theorem uL_m47 : za_LK.mt lkL 47 = some (2, 0, 0, 4, mX7_init) := rfl
theorem uL_m48 : za_LK.mt lkL 48 = some (0, 1, 4, 7, mX7_app) := rfl
theorem uL_m51 : za_LK.mt lkL 51 = some (1, 2, 0, 0, mL_told) := rfl
theorem uL_m54 : za_LK.mt lkL 54 = some (1, 3, 0, 9, mL_draft) := rfl
theorem uL_m58 : za_LK.mt lkL 58 = some (0, 0, 4, 0, mX7_hour) := rfl
theorem uL_m63 : za_LK.mt lkL 63 = some (0, 2, 4, 8, mX7_item) := rfl
theorem uL_m66 : za_LK.mt lkL 66 = some (0, 1, 4, 8, mX7_pass) := rfl
theorem uL_m69 : za_LK.mt lkL 69 = some (0, 1, 4, 8, mX7_withdraw) := rfl
theorem uL_m73 : za_LK.mt lkL 73 = some (1, 5, 0, 9, mL_goesOut) := rfl
theorem uL_m77 : za_LK.mt lkL 77 = some (1, 5, 0, 9, mL_cuts) := rfl
theorem uL_m80 : za_LK.mt lkL 80 = some (1, 4, 0, 8, mL_isPolled) := rfl
theorem uL_n10 : za_LK.nw lkL 10 = some (4, [.null, .null, .null, .null, .null, .null, .int (nI 0), .int (nI 0), .int (nI 0), .int (nI 0)]) := rfl
theorem uL_k7 : za_LK.cn lkL 7 = some 40009 := rfl
theorem uL_k8 : za_LK.cn lkL 8 = some 2147483647 := rfl
theorem uL_k62 : za_LK.cn lkL 62 = some 65536 := rfl
end
section
theorem cok_0 : za_cok 0 := ⟨_, rfl, (tm_3 (List.mem_of_getElem? (i := 27) (by decide +kernel)))⟩
theorem cok_1 : za_cok 1 := ⟨_, rfl, (tm_3 (List.mem_of_getElem? (i := 30) (by decide +kernel)))⟩
theorem cok_2 : za_cok 2 := ⟨_, rfl, (tm_3 (List.mem_of_getElem? (i := 33) (by decide +kernel)))⟩
theorem cok_3 : za_cok 3 := ⟨_, rfl, (tm_3 (List.mem_of_getElem? (i := 32) (by decide +kernel)))⟩
theorem cok_4 : za_cok 4 := ⟨_, rfl, (tm_3 (List.mem_of_getElem? (i := 26) (by decide +kernel)))⟩
theorem zi_im1 : Int32.ofInt (-1) = (-1) := by decide +kernel
theorem zi_i0 : Int32.ofInt (0) = nI 0 := by decide +kernel
theorem zi_i1 : Int32.ofInt (1) = nI 1 := by decide +kernel
theorem zi_i2 : Int32.ofInt (2) = nI 2 := by decide +kernel
theorem zi_i3 : Int32.ofInt (3) = nI 3 := by decide +kernel
theorem zi_i4 : Int32.ofInt (4) = nI 4 := by decide +kernel
theorem zi_i5 : Int32.ofInt (5) = nI 5 := by decide +kernel
theorem zi_b6 : (Int8.ofInt (6)).toInt32 = nI 6 := by decide +kernel
theorem zi_b7 : (Int8.ofInt (7)).toInt32 = nI 7 := by decide +kernel
theorem zi_b8 : (Int8.ofInt (8)).toInt32 = nI 8 := by decide +kernel
theorem zi_b10 : (Int8.ofInt (10)).toInt32 = nI 10 := by decide +kernel
theorem zi_b11 : (Int8.ofInt (11)).toInt32 = nI 11 := by decide +kernel
theorem zi_b16 : (Int8.ofInt (16)).toInt32 = nI 16 := by decide +kernel
theorem zi_b24 : (Int8.ofInt (24)).toInt32 = nI 24 := by decide +kernel
theorem zi_b48 : (Int8.ofInt (48)).toInt32 = nI 48 := by decide +kernel
theorem zi_b50 : (Int8.ofInt (50)).toInt32 = nI 50 := by decide +kernel
theorem zi_s300 : (Int16.ofInt (300)).toInt32 = nI 300 := by decide +kernel
theorem zi_s512 : (Int16.ofInt (512)).toInt32 = nI 512 := by decide +kernel
theorem zi_s999 : (Int16.ofInt (999)).toInt32 = nI 999 := by decide +kernel
theorem zi_s4096 : (Int16.ofInt (4096)).toInt32 = nI 4096 := by decide +kernel
theorem zi_s9999 : (Int16.ofInt (9999)).toInt32 = nI 9999 := by decide +kernel
end
section
/-! THE PLAIN LAYER (9): numbers, literals -/
theorem za_fn_0 : za_fn 0 = 0 := rfl
theorem za_fn_1 : za_fn 1 = 1 := rfl
theorem za_fn_2 : za_fn 2 = 2 := rfl
theorem za_fn_3 : za_fn 3 = 3 := rfl
theorem za_cd_eq (x y : Int32) : za_cd .eq x y = (x = y) := rfl
theorem za_cd_ne (x y : Int32) : za_cd .ne x y = (¬ x = y) := rfl
theorem za_cd_lt (x y : Int32) : za_cd .lt x y = (x < y) := rfl
theorem za_cd_ge (x y : Int32) : za_cd .ge x y = (y ≤ x) := rfl
theorem za_cd_gt (x y : Int32) : za_cd .gt x y = (y < x) := rfl
theorem za_cd_le (x y : Int32) : za_cd .le x y = (x ≤ y) := rfl
theorem za_cat_i (x : Int32) : (Value.int x).category = 1 := rfl
theorem za_cat_r (a : Nat) : (Value.ref a).category = 1 := rfl
theorem za_cat_n : Value.null.category = 1 := rfl
theorem zn_le {a b : Nat} (ha : a < 2147483648) (hb : b < 2147483648) : nI a ≤ nI b ↔ a ≤ b := ⟨fun q => Nat.le_of_not_lt fun z => nI_ge z ha q, fun q => nI_le q hb⟩
theorem zn_lt {a b : Nat} (ha : a < 2147483648) (hb : b < 2147483648) : nI a < nI b ↔ a < b := ⟨fun q => Nat.lt_of_not_le fun z => nI_nlt z ha q, fun q => nI_lt q hb⟩
theorem zn_eq {a b : Nat} (ha : a < 2147483648) (hb : b < 2147483648) : nI a = nI b ↔ a = b := ⟨fun q => by
  have z := congrArg Int32.toInt q
  rw [nI_toInt ha, nI_toInt hb] at z
  exact Int.ofNat_inj.mp z, fun q => by rw [q]⟩
theorem zn_in {j n : Nat} (hj : j < n) (hn : n < 2147483648) : vp_in (nI j) n := pk_in j n hj
theorem zx_le {x y : Int32} : x ≤ y ↔ x.toInt ≤ y.toInt := Int32.le_iff_toInt_le
theorem zx_lt {x y : Int32} : x < y ↔ x.toInt < y.toInt := Int32.lt_iff_toInt_lt
theorem zx_eq {x y : Int32} : x = y ↔ x.toInt = y.toInt := Int32.toInt_inj.symm
theorem zx_n {x : Int32} (h : 0 ≤ x.toInt) : ∃ n : Nat, n < 2147483648 ∧ x = nI n ∧ x.toInt = n := by
  have hb := x.toInt_lt
  refine ⟨x.toInt.toNat, by omega, ?_, by omega⟩
  rw [zx_eq, nI_toInt (by omega)]
  omega
/-- a yes or no as an int -/
def zb (b : Bool) : Int32 := match b with
  | true => nI 1
  | false => nI 0
theorem zb_t : zb true = nI 1 := rfl
theorem zb_f : zb false = nI 0 := rfl
theorem zb_eq0 (b : Bool) : zb b = nI 0 ↔ b = false := by cases b <;> decide +kernel
theorem zb_narrow (b : Bool) : narrow .boolean (.int (zb b)) = .int (zb b) := by cases b <;> decide +kernel
theorem zb_n0 : narrow .boolean (.int (nI 0)) = .int (nI 0) := by decide +kernel
theorem zb_n1 : narrow .boolean (.int (nI 1)) = .int (nI 1) := by decide +kernel
theorem zn_narrow (x : Int32) : narrow .int (.int x) = .int x := rfl
theorem zb_01 (b : Bool) : zb b = nI 0 ∨ zb b = nI 1 := by cases b; exact Or.inl rfl; exact Or.inr rfl
/-- a method by its body, with the rows themselves at hand; arguments may be longs -/
theorem za_mL {G : za_G} {y : MethodName} {cc : ByteArray} {nL : Nat} {ret : Option FieldType} {fr : Nat} {lk : za_LK} {hx : List Nat} {ini : Bool} {cuts : Nat → Bool} {as : List Value} {h : za_H} {mc ms : Nat} {K : za_O → za_H → Prop} (F : za_F G) (hlk : za_lk y.cls lk) (hini : ini = true → y.name = "<init>") (hpl : plainName y.cls = true) (has : (lg_sl as).length ≤ nL)
    (body : ∀ w : za_N, (∀ (n pc : Nat) (ls : za_L) (st : List Value) (h : za_H) (c s : Nat), za_f G cc ret [] hx ini fr lk mc ms K cuts w n pc ls st h c s → w pc ls st h c s) → w 0 (za_la as ++ List.replicate (nL - (za_la as).length) none) [] h 0 0) : za_P G (y, cc, nL, ret, [], fr) as h mc ms K := by
  refine vx_ofW (cc := cc) (maxL := nL) (ret := ret) (ws' := []) hpl rfl ?_
  intro p e s m args below meth c s₁ B hml ht hPc
  obtain ⟨rfl, hW, hR⟩ := hPc
  have X : za_X (G, (y, cc, nL, ret, [], fr), mc, ms, K, p, e, s, m, as.toArray, below, meth, c) := ⟨B.exec, B.bytes, hml, findClass_of_methodNamed B.named, B.notSynchronized, hW, F, (name_of_methodNamed B.named B.method).1, B.returns, List.eq_nil_iff_forall_not_mem.mpr ht⟩
  have hb := body (za_w (G, (y, cc, nL, ret, [], fr), mc, ms, K, p, e, s, m, as.toArray, below, meth, c)) (za_f_ok X hlk trivial hini)
  have h9 := hb s.heap [] _ hR hW.2 (fun z hz => by cases hz) (za_l.entry2 as nL has)
  rw [lg_entry_eq m as]
  exact h9
/-- a method by its body, with the rows themselves at hand -/
theorem za_mX {G : za_G} {y : MethodName} {cc : ByteArray} {nL : Nat} {ret : Option FieldType} {hh : List (Nat × Nat × Nat × Nat)} {fr : Nat} {lk : za_LK} {hx : List Nat} {ini : Bool} {cuts : Nat → Bool} {as : List Value} {h : za_H} {mc ms : Nat} {K : za_O → za_H → Prop} (F : za_F G) (hlk : za_lk y.cls lk) (hht : za_ht y.cls hh hx) (hini : ini = true → y.name = "<init>") (hpl : plainName y.cls = true) (has : as.length ≤ nL) (hcat : ∀ v ∈ as, v.category = 1)
    (body : ∀ R, za_X (G, (y, cc, nL, ret, hh, fr), mc, ms, K, R) → (∀ (n pc : Nat) (ls : za_L) (st : List Value) (h : za_H) (c s : Nat), za_f G cc ret hh hx ini fr lk mc ms K cuts (za_w (G, (y, cc, nL, ret, hh, fr), mc, ms, K, R)) n pc ls st h c s → za_w (G, (y, cc, nL, ret, hh, fr), mc, ms, K, R) pc ls st h c s) → za_w (G, (y, cc, nL, ret, hh, fr), mc, ms, K, R) 0 (as.map some ++ List.replicate (nL - as.length) none) [] h 0 0) : za_P G (y, cc, nL, ret, hh, fr) as h mc ms K := by
  have start : ∀ p e s m args below meth c s₁, BodyLoose p G.l y (headSpec [za_cw (y, cc, nL, ret, hh, fr)] (za_rm fr mc ms)) cc nL ret e s m args below meth c s₁ → c.maxLocals = nL → c.exceptionTable.toList = tableOf hh → za_Pc G as h args s →
      W p G.l e (headSpec [za_cw (y, cc, nL, ret, hh, fr)] (za_rm fr mc ms)).room s m args below meth c s.heap [] 0 0 (vx_MQ below (za_Qc G K) (za_Xc G K) args s mc ms (za_A G)) (entryFrame m args nL) := by
    intro p e s m args below meth c s₁ B hml ht hPc
    obtain ⟨rfl, hW, hR⟩ := hPc
    have X : za_X (G, (y, cc, nL, ret, hh, fr), mc, ms, K, p, e, s, m, as.toArray, below, meth, c) := ⟨B.exec, B.bytes, hml, findClass_of_methodNamed B.named, B.notSynchronized, hW, F, (name_of_methodNamed B.named B.method).1, B.returns, ht⟩
    have hb := body (p, e, s, m, as.toArray, below, meth, c) X (za_f_ok X hlk hht hini)
    have h9 := hb s.heap [] _ hR hW.2 (fun z hz => by cases hz) (za_l.entry as nL has hcat)
    rw [entry_eq m as hcat]
    exact h9
  unfold za_P
  cases hq : hh with
  | nil =>
    subst hq
    refine vx_ofW (cc := cc) (maxL := nL) (ret := ret) (ws' := []) hpl rfl ?_
    intro p e s m args below meth c s₁ B hml ht hPc
    exact start p e s m args below meth c s₁ B hml (List.eq_nil_iff_forall_not_mem.mpr ht) hPc
  | cons t ts =>
    subst hq
    refine vx_ofWH (cc := cc) (maxL := nL) (ret := ret) (hh := t :: ts) (ws' := []) hpl rfl ?_
    intro p e s m args below meth c s₁ B hml hPc
    exact start p e s m args below meth c s₁ B hml (vx_table (x := y) B (bytes := cc) (maxL' := nL) (ret' := ret) (atoms_spec (ws := [za_cw (y, cc, nL, ret, t :: ts, fr)]) B.pre _ List.mem_cons_self)) hPc
theorem za_fit_i (x : Int32) : za_fit .int (.int x) = True := eq_true ⟨rfl, rfl⟩
theorem za_fit_b (b : Bool) : za_fit .boolean (.int (zb b)) = True := by cases b <;> exact eq_true (by unfold za_fit; decide +kernel)
theorem za_fit_b0 : za_fit .boolean (.int (nI 0)) = True := za_fit_b false
theorem za_fit_b1 : za_fit .boolean (.int (nI 1)) = True := za_fit_b true
theorem za_fit_r (E : String) (a : Nat) : za_fit (.object E) (.ref a) = True := eq_true ⟨rfl, rfl⟩
theorem za_fit_n (E : String) : za_fit (.object E) .null = True := eq_true ⟨rfl, rfl⟩
theorem za_fit_a (t : FieldType) (a : Nat) : za_fit (.array t) (.ref a) = True := eq_true ⟨rfl, rfl⟩
theorem za_upup (h : za_H) (a : Nat) (e e1 : za_E) : za_up (za_up h a e) a e1 = za_up h a e1 := by
  funext q
  by_cases z : q = a
  · subst z; rw [za_up_s, za_up_s]
  · rw [za_up_n _ _ z, za_up_n _ _ z, za_up_n _ _ z]
theorem za_upc (h : za_H) {a b : Nat} (e e1 : za_E) (n : a ≠ b) : za_up (za_up h a e) b e1 = za_up (za_up h b e1) a e := by
  funext q
  by_cases z : q = a
  · subst z; rw [za_up_s, za_up_n _ _ n, za_up_s]
  · by_cases y : q = b
    · subst y; rw [za_up_s, za_up_n _ _ z, za_up_s]
    · rw [za_up_n _ _ y, za_up_n _ _ z, za_up_n _ _ z, za_up_n _ _ y]
theorem za_max_n {a b : Nat} (ha : a < 2147483648) (hb : b < 2147483648) : za_max (nI a) (nI b) = nI (max a b) := by
  unfold za_max
  by_cases q : a < b
  · rw [if_pos ((zn_lt ha hb).mpr q), Nat.max_eq_right (by omega)]
  · rw [if_neg (fun z => q ((zn_lt ha hb).mp z)), Nat.max_eq_left (by omega)]
theorem za_min_n {a b : Nat} (ha : a < 2147483648) (hb : b < 2147483648) : za_min (nI a) (nI b) = nI (min a b) := by
  unfold za_min
  by_cases q : b < a
  · rw [if_pos ((zn_lt hb ha).mpr q), Nat.min_eq_right (by omega)]
  · rw [if_neg (fun z => q ((zn_lt hb ha).mp z)), Nat.min_eq_left (by omega)]
end
