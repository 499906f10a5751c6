/-! THE CLAIM (3): from the skeleton; lw_walk by the contract -/
def R_law : String := "FeedTowerLaw"
def lw_P (b : Addr) (xs : List Int32) (args : Array Value) (s : State) : Prop := args = #[.ref b] ∧ s.IntsAt b xs ∧ xs.length ≤ 260 ∧ (Jvm.Cond.and given_1 narrow_1).before args s = true
def lw_Q (_ : Array Value) (s : State) (o : Outcome) (t : State) : Prop := o = .returned (some (.int 1)) ∧ Framed s o t [] 600064 7301640
set_option maxHeartbeats 4000000 in
theorem lw_walk (l : Launch) (hflags : l.flags = flags0) (b : Addr) (xs : List Int32) : MetFree l x (headSpec (Jvm.Cond.code x code maxLocals ret :: tables_1) room_1) (lw_P b xs) (fun _ _ _ _ _ => True) lw_Q := by
  intro p e ha hc hk s m args below hf happ hP _
  obtain ⟨rfl, hx, hbd, hgv⟩ := hP
  obtain ⟨hrun, hable, halone, hname, hhears, hinit, hroom, hpre⟩ := (Spec.appliesLoose_iff hf).mp happ
  have hts0 : ∀ c ∈ (Jvm.Cond.code x code maxLocals ret :: tables_1), c.before #[Value.ref b] s = true := atoms_spec (ws := Jvm.Cond.code x code maxLocals ret :: tables_1) hpre
  have hts : ∀ w ∈ lw_tbl, w.before #[Value.ref b] s = true := k2_hts_sels lw_privs (fun w hw => hts0 w (List.mem_cons_of_mem _ hw)) lw_privs_ok
  obtain ⟨scr, harrAt, hlist, hof, hsmall⟩ := hx
  obtain ⟨hcb, hkn, -, -⟩ := State.arrayAt?_spec harrAt
  have hsz : scr.slots.size = xs.length := by rw [← Array.length_toList, hlist, List.length_map]
  have hval : ∀ j : Nat, j < xs.length → scr.slots[j]? = some (.int (xs.getD j 0)) := fun j hj => by
    rw [← Array.getElem?_toList, hlist]
    simp [hj]
  have hX : va_X b xs.length (fun j => xs.getD j 0) s s.heap := ⟨scr, hcb, hof, hkn, hsz, hval⟩
  obtain ⟨D, t, mi, F, hbt⟩ := zF_start l hflags hts hX hgv
  have hsl : scr.slots = (arrV 0 xs.length (fun j => .int (xs.getD j 0))).slots := by
    refine Array.ext_getElem? (fun j => ?_)
    by_cases hj : j < xs.length
    · rw [hval j hj, arrV_read _ _ hj]
    · rw [Array.getElem?_eq_none (by omega), Array.getElem?_eq_none (by rw [arrV_size]; omega)]
  have hM := m_law F (b := b) (n := xs.length) (f := fun j => xs.getD j 0) hbt hbd
  have hcode : (Jvm.Cond.code yL_law cL_law 15 (some .boolean)).before #[Value.ref b] s = true := hts0 _ List.mem_cons_self
  have happ2 : (headSpec [za_cw mL_law9] (za_rm 10 600064 7301640)).appliesLoose yL_law e.platform s = true := by
    refine (Spec.appliesLoose_iff hf).mpr ⟨hrun, hable, halone, hname, hhears, hinit, zroom hroom (Nat.le_of_ble_eq_true rfl) (Nat.le_of_ble_eq_true rfl) (Nat.le_of_ble_eq_true rfl) (Nat.le_of_ble_eq_true rfl), ?_⟩
    show (Jvm.Cond.and (Jvm.Cond.code yL_law cL_law 15 (some .boolean)) Jvm.Cond.tt).before #[Value.ref b] s = true
    rw [Cond.before_and, hcode]
    rfl
  have hPc : za_Pc (l, s, D, t, mi, b) [.ref b] (zh0 b xs.length (fun j => xs.getD j 0)) #[Value.ref b] s := by
    refine ⟨rfl, ⟨State.WarmedH.refl s, Nat.le_refl _, fun q _ => rfl⟩, fun a e0 h => ?_⟩
    unfold zh0 at h
    by_cases hq : a = b
    · subst hq
      rw [za_up_s] at h
      cases h
      exact ⟨Or.inr rfl, Or.inr ⟨_, _, rfl, scr, hcb, hof, hkn, hsl⟩⟩
    · rw [za_up_n _ _ hq] at h
      cases h
  obtain ⟨n, o, h1, h2, h3, h4⟩ := hM p e ha hc hk s m #[Value.ref b] below hf happ2 hPc trivial
  refine ⟨n, o, h1, h2, h3, ?_⟩
  rcases h4 with ⟨⟨v, h', e1, ⟨e2, e3⟩, hR, hK⟩, L, ⟨f1, f2, s1, s2, s3, s4, s5, s6⟩, hL⟩ | ⟨q, e1, E, ce, L, ⟨k, h', g1, ⟨g2, g3⟩, g4⟩, h6⟩
  · have ev : v = some (.int (nI 1)) := Sum.inl.inj e2
    subst ev
    refine ⟨e1, f1, f2, s1, s2, s3, s4, s5, fun a c hac => ?_⟩
    obtain ⟨c', k1, k2, k3, k4⟩ := s6 a c hac
    refine ⟨c', k1, k2, k3, fun i _ => ?_⟩
    by_cases hin : (⟨a, i⟩ : Loc) ∈ L
    · rcases hL _ hin with y | y
      · have y : s.heap.size ≤ a := y
        have := (Array.getElem?_eq_some_iff.mp hac).1
        omega
      · have y : a = b := y
        subst y
        obtain ⟨cell, c1, c2, c3, c4⟩ := za_cyi (hR _ _ e3).2
        have k1 : (stepsAlone p.tables e n s).heap[a]? = some c' := k1
        cases k1.symm.trans c1
        cases hac.symm.trans hcb
        rw [c4, hsl]
    · exact k4 i hin
  · cases g2
theorem lw_pre_spec {args : Array Value} {s : State} (h : (Jvm.Cond.and given_1 narrow_1).before args s = true) (hr : rest_1_c.before args s = true) : ∃ (b : Addr) (xs : List Int32), lw_P b xs args s := by
  have hs := flat_of_before _ h
  have hq := flat_of_before _ hr
  have hc : (Cond.count 1).before args s = true := hs _ (by decide +kernel)
  have harr : (Cond.arrayOf (.arg 0) .int).before args s = true := hs _ (by decide +kernel)
  have hle : (Cond.le (.length (.arg 0)) (.int 260)).before args s = true := hs _ (by decide +kernel)
  have hlen : (Cond.isInt (.length (.arg 0))).before args s = true := hq _ (by decide +kernel)
  have hall : (Cond.all (.arg 0) (.isInt (.elem (.arg 0) (.index 0)))).before args s = true := hq _ (by decide +kernel)
  obtain ⟨b, xs, hb, hx⟩ := State.ints_of_pre rfl harr hlen hall
  have hsm : xs.length < 2 ^ 31 := hx.choose_spec.2.2.2
  have hev : (Term.length (.arg 0)).eval args s none [] s = some (.int xs.length.toInt32) := hx.length_eval hb
  have hv := Cond.le_ints hev (show (Term.int 260).eval args s none [] s = some (.int 260) from rfl)
  have hd : xs.length.toInt32 ≤ 260 := by
    simpa [Cond.before, Cond.holds, hv] using hle
  have hN : xs.length ≤ 260 := (Int32.ofNat_le_ofNat hsm (by decide)).mp (show Int32.ofNat xs.length ≤ Int32.ofNat 260 from hd)
  exact ⟨b, xs, Cond.one_arg hc (show args[0]? = some (.ref b) from hb), hx, hN, h⟩
theorem lw_comes (l : Launch) (hflags : l.flags = flags0) : Comes l x (Jvm.Cond.code x code maxLocals ret :: tables_1) room_1 (fun tb e args s => Calls_1 tb e args s ∧ rest_1 tb e args s ∧ Pre_1 tb e args s)
    (fun _ _ args s o t => lw_Q args s o t) := by
  intro p e ha hc hk s m args below hf hfit hheap happ hpre
  obtain ⟨b, xs, hP⟩ := lw_pre_spec hpre.2.2 hpre.2.1
  obtain ⟨k, o, h1, h2, h3, hQ⟩ := lw_walk l hflags b xs p e ha hc hk s m args below hf ((Spec.applies_iff_loose hf).mp happ).1 hP trivial
  exact ⟨k, o, h1, h2, h3, hQ⟩
theorem lw_frame {s t : State} {o : Outcome} {args : Array Value} (h : Framed s o t [] 600064 7301640) :
    Framed s o t (fieldLocs frame_1_writes args s ++ arrayLocs frame_1_arrays args s ++ staticLocs frame_1_statics s) 600064 7301640 := h
theorem lw_limb (L : Cond) (hL : ∀ (args : Array Value) (s t : State), L.after args s (.returned (some (.int 1))) t = true) :
    ArmFor flags0 classFile x code maxLocals ret World_1 tables_1 room_1 Calls_1 rest_1 Pre_1
      (fun tb e a s o t => postC L tb e a s o t ∧ Framed s o t (fieldLocs frame_1_writes a s ++ arrayLocs frame_1_arrays a s ++ staticLocs frame_1_statics s) 600064 7301640) := by
  intro l hflags _ _ p e ha hc hk s m args below hf hfit hheap happ hpre
  obtain ⟨k, o, h1, h2, h3, rfl, hF⟩ := lw_comes l hflags p e ha hc hk s m args below hf hfit hheap happ hpre
  exact ⟨k, _, h1, h2, h3, hL args s _, lw_frame hF⟩
theorem i_vc : Claimed_1_1 ∧ Claimed_1_2 := ⟨lw_limb limb_1_1 (fun args s t => by simp [limb_1_1, Cond.after, Cond.holds, Cond.value]), lw_limb limb_1_2 (fun args s t => Cond.after_iff.mpr (by
  first | (rw [show limb_1_2 = Cond.eq .result (.int 1) from rfl, Cond.eq_ints (x := 1) (y := 1) rfl rfl]; simp; done) | (simp [limb_1_2, Cond.value, Term.eval]; done)))⟩
