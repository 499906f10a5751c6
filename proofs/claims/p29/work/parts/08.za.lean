/-! THE PLAIN LAYER (1): a heap as a partial function, what it says of the machine's heap -/
abbrev za_E : Type := (FieldType × vp_A) ⊕ (Nat × List Value)
abbrev za_H : Type := Nat → Option za_E
abbrev za_L : Type := List (Option Value)
def za_up (h : za_H) (a : Nat) (e : za_E) : za_H := fun q => if q = a then some e else h q
theorem za_up_s (h : za_H) (a : Nat) (e : za_E) : za_up h a e a = some e := if_pos rfl
theorem za_up_n (h : za_H) {a q : Nat} (e : za_E) (n : q ≠ a) : za_up h a e q = h q := if_neg n
/-- launch, the law's own start, the classes' numbers and slots, the address of the list's empty row, that of the class object of Object rows, that of the script -/
abbrev za_G : Type := Launch × State × va_G × Nat × Nat × Nat
abbrev za_G.l (G : za_G) : Launch := G.1
abbrev za_G.s (G : za_G) : State := G.2.1
abbrev za_G.D (G : za_G) : va_G := G.2.2.1
abbrev za_G.t (G : za_G) : Nat := G.2.2.2.1
abbrev za_G.mi (G : za_G) : Nat := G.2.2.2.2.1
abbrev za_G.sc (G : za_G) : Nat := G.2.2.2.2.2
def za_b (G : za_G) : Nat := G.s.heap.size
/-- the cells that may be spoken of: the new ones and the script -/
def za_A (G : za_G) : Nat → Prop := fun q => za_b G ≤ q ∨ q = G.sc
/-- a row of ints: of its cell only what it holds is known (the script's may have a monitor) -/
def za_cyc (G : za_G) (a n : Nat) (f : Nat → Int32) (H : Heap) : Prop := ∃ cell : Cell, H[a]? = some cell ∧ G.s.isArrayOf cell .int ∧ cell.vm ≠ .unknown ∧ cell.slots = (arrV 0 n (fun j => .int (f j))).slots
def za_cy (G : za_G) (a : Nat) (x : FieldType × vp_A) (H : Heap) : Prop := (∃ cA, ArrOfT G.s cA x.1 ∧ va_RA G.s cA x.1 ∧ H[a]? = some (vp_cell cA x.2)) ∨ ∃ n f, x = (.int, n, .inl f) ∧ za_cyc G a n f H
theorem za_cyn {G : za_G} {a : Nat} {x : FieldType × vp_A} {H : Heap} (h : za_cy G a x H) (hn : x.1 ≠ .int) : ∃ cA, ArrOfT G.s cA x.1 ∧ va_RA G.s cA x.1 ∧ H[a]? = some (vp_cell cA x.2) := by
  rcases h with h | ⟨n, f, rfl, -⟩
  · exact h
  · exact absurd rfl hn
theorem za_cyi {G : za_G} {a n : Nat} {f : Nat → Int32} {H : Heap} (h : za_cy G a (.int, n, .inl f) H) : za_cyc G a n f H := by
  rcases h with ⟨cA, h1, -, h3⟩ | ⟨n', f', e, h⟩
  · exact ⟨_, h3, h1 n (fun j => .int (f j)), (fun q => by cases q), rfl⟩
  · cases e
    exact h
def za_c (G : za_G) (a : Nat) (e : za_E) (H : Heap) : Prop := match e with
  | .inl x => za_cy G a x H
  | .inr o => ∃ r : vw_C, vwCl[o.1]? = some r ∧ t_OB a (G.D.1 o.1) r.2.2 (G.D.2 o.1) H (vp_V o.2)
def za_R (G : za_G) (h : za_H) (H : Heap) : Prop := ∀ a e, h a = some e → za_A G a ∧ za_c G a e H
/-- q is new -/
def za_nn (G : za_G) (h : za_H) (q : Nat) : Prop := h q = none ∧ q ≠ G.t
def za_K (G : za_G) (H : Heap) : Prop := za_b G ≤ H.size ∧ ∀ q, ¬ za_A G q → H[q]? = G.s.heap[q]?
def za_W (G : za_G) (U : State) : Prop := G.s.WarmedH U.vm ∧ za_K G U.heap
/-- what is known of the start -/
def za_F (G : za_G) : Prop := G.l.stackTraces = false ∧ (∃ A0 : Array Value, ∀ w ∈ lw_tbl, w.before A0 G.s = true) ∧ va_K G.D vwCl [] G.s ∧
  va_Z "java/util/ArrayList" "DEFAULTCAPACITY_EMPTY_ELEMENTDATA" "[Ljava/lang/Object;" (.ref G.t) (za_A G) G.s G.s.heap ∧ va_T (.object "java/lang/Object") G.t 0 (fun _ => .null) (za_A G) G.s G.s.heap ∧
  vx_Zq Bundle.tN "UNASSIGNED_STACK" Bundle.steD (za_A G) G.s G.s.heap ∧ vx_Zq Bundle.tN "SUPPRESSED_SENTINEL" Bundle.listD (za_A G) G.s G.s.heap ∧
  (∀ k tx, Cond.stringRef RX7 k tx ∈ lw_tbl → ∃ sa, vk_R RX7 k tx sa G.s) ∧ (∀ k tx, Cond.stringRef RX3 k tx ∈ lw_tbl → ∃ sa, vk_R RX3 k tx sa G.s) ∧
  va_Mi "[Ljava/lang/Object;" G.mi G.s ∧
  True
theorem za_word {G : za_G} (F : za_F G) {s : State} (hW : G.s.WarmedH s.vm) {w : Cond} (hw : w ∈ lw_tbl) (hg : goodWord w = true) (args : Array Value) : w.before args s = true := by
  obtain ⟨A0, h⟩ := F.2.1
  exact word_at hW (good_of_word hg) (h w hw)
theorem za_c.kept {G : za_G} {a : Nat} {e : za_E} {H H1 : Heap} (h : za_c G a e H) (hq : H1[a]? = H[a]?) : za_c G a e H1 := by
  cases e with
  | inl x =>
    rcases h with ⟨cA, h1, h2, h3⟩ | ⟨n, f, e, cell, h1, h2⟩
    · exact Or.inl ⟨cA, h1, h2, hq.trans h3⟩
    · exact Or.inr ⟨n, f, e, cell, hq.trans h1, h2⟩
  | inr o => obtain ⟨r, h1, h2⟩ := h; exact ⟨r, h1, h2.kept hq⟩
theorem za_c.lt {G : za_G} {a : Nat} {e : za_E} {H : Heap} (h : za_c G a e H) : a < H.size := by
  cases e with
  | inl x =>
    rcases h with ⟨cA, h1, h2, h3⟩ | ⟨n, f, e, cell, h1, h2⟩
    · exact (Array.getElem?_eq_some_iff.mp h3).1
    · exact (Array.getElem?_eq_some_iff.mp h1).1
  | inr o => obtain ⟨r, h1, cell, h2, -⟩ := h; exact (Array.getElem?_eq_some_iff.mp h2).1
theorem za_R.lt {G : za_G} {h : za_H} {H : Heap} (hR : za_R G h H) {a : Nat} {e : za_E} (ha : h a = some e) : a < H.size := (hR a e ha).2.lt
theorem za_R.new {G : za_G} {h : za_H} {H : Heap} (hR : za_R G h H) {a : Nat} (ha : H.size ≤ a) : h a = none := by
  cases hh : h a with
  | none => rfl
  | some e => exact absurd (hR.lt hh) (by omega)
theorem za_R.set {G : za_G} {h : za_H} {H H1 : Heap} (hR : za_R G h H) {a : Nat} {e0 e : za_E} (ha : h a = some e0) (he : za_c G a e H1) (oq : ∀ q : Nat, q ≠ a → H1[q]? = H[q]?) : za_R G (za_up h a e) H1 := by
  intro q x hx
  unfold za_up at hx
  by_cases hq : q = a
  · subst hq
    rw [if_pos rfl] at hx
    cases hx
    exact ⟨(hR _ _ ha).1, he⟩
  · rw [if_neg hq] at hx
    exact ⟨(hR q x hx).1, (hR q x hx).2.kept (oq q hq)⟩
theorem za_K.set {G : za_G} {H H1 : Heap} (hK : za_K G H) {a : Nat} (ha : za_A G a) (z : H1.size = H.size) (oq : ∀ q : Nat, q ≠ a → H1[q]? = H[q]?) : za_K G H1 :=
  ⟨by rw [z]; exact hK.1, fun q hq => by rw [oq q (fun z => hq (by rw [z]; exact ha))]; exact hK.2 q hq⟩
theorem za_R.push {G : za_G} {h : za_H} {H H1 : Heap} (hR : za_R G h H) (hK : za_K G H) {e : za_E} (he : za_c G H.size e H1) (oq : ∀ q : Nat, q < H.size → H1[q]? = H[q]?) : za_R G (za_up h H.size e) H1 := by
  intro q x hx
  unfold za_up at hx
  by_cases hq : q = H.size
  · subst hq
    rw [if_pos rfl] at hx
    cases hx
    exact ⟨Or.inl hK.1, he⟩
  · rw [if_neg hq] at hx
    exact ⟨(hR q x hx).1, (hR q x hx).2.kept (oq q (hR.lt hx))⟩
theorem za_R.grow {G : za_G} {h : za_H} {H H1 : Heap} (hR : za_R G h H) (oq : ∀ q : Nat, q < H.size → H1[q]? = H[q]?) : za_R G h H1 :=
  fun q x hx => ⟨(hR q x hx).1, (hR q x hx).2.kept (oq q (hR.lt hx))⟩
theorem za_K.push {G : za_G} {H H1 : Heap} (hK : za_K G H) (z : H.size ≤ H1.size) (oq : ∀ q : Nat, q < H.size → H1[q]? = H[q]?) : za_K G H1 :=
  ⟨Nat.le_trans hK.1 z, fun q hq => by rw [oq q (Nat.lt_of_lt_of_le (Nat.lt_of_not_le fun y => hq (Or.inl y)) hK.1)]; exact hK.2 q hq⟩
theorem za_K.S {G : za_G} {H : Heap} {locs : List Loc} {s : State} (hK : za_K G H) (hs : za_K G s.heap) (hz : s.heap.size ≤ H.size) (hl : ∀ z ∈ locs, za_b G ≤ z.base) : True := trivial
/-- the locals: a long stands at its first slot, and behind it nothing -/
def za_l (n : Nat) (lv : za_L) (ls : Array Slot) : Prop := lv.length = n ∧ ∃ A, lv_has ls n A ∧ ∀ i v, lv[i]? = some (some v) → (v.category = 1 ∨ lv[i + 1]? = some none) → (i, v) ∈ A
theorem za_l.at {n : Nat} {lv : za_L} {ls : Array Slot} (h : za_l n lv ls) {i : Nat} {v : Value} (hi : lv[i]? = some (some v)) (hc : v.category = 1 ∨ lv[i + 1]? = some none) : ls[i]? = some (.val v) := by
  obtain ⟨-, A, h1, h2⟩ := h
  exact h1.2.2 (i, v) (h2 i v hi hc)
theorem za_l.size {n : Nat} {lv : za_L} {ls : Array Slot} (h : za_l n lv ls) : ls.size = n := by
  obtain ⟨-, A, h1, -⟩ := h
  exact h1.1
theorem za_l.put {n : Nat} {lv : za_L} {i : Nat} {v : Value} (hl : lv.length = n) {A : List (Nat × Value)} (h2 : ∀ i v, lv[i]? = some (some v) → (v.category = 1 ∨ lv[i + 1]? = some none) → (i, v) ∈ A) {ls' : Array Slot} (h : lv_has ls' n ((i, v) :: A.filter (fun q => !(q.1 == i) && !(q.1 + 1 == i && q.2.category == 2)))) : za_l n (lv.set i (some v)) ls' := by
  refine ⟨by rw [List.length_set]; exact hl, _, h, fun j w hj hw => ?_⟩
  by_cases hji : j = i
  · subst hji
    rw [List.getElem?_set] at hj
    simp only [if_true] at hj
    split at hj
    · cases hj
      exact List.mem_cons_self
    · cases hj
  · rw [List.getElem?_set_ne (Ne.symm hji)] at hj
    rcases hw with hw | hw
    · exact List.mem_cons_of_mem _ (List.mem_filter.mpr ⟨h2 j w hj (Or.inl hw), by simp [hji, hw]⟩)
    · by_cases hj1 : j + 1 = i
      · subst hj1
        rw [List.getElem?_set] at hw
        simp only [if_true] at hw
        split at hw
        · cases hw
        · cases hw
      · rw [List.getElem?_set_ne (Ne.symm hj1)] at hw
        exact List.mem_cons_of_mem _ (List.mem_filter.mpr ⟨h2 j w hj (Or.inr hw), by simp [hji, hj1]⟩)
theorem za_l.put2 {n : Nat} {lv : za_L} {i : Nat} {x : Int64} (hl : lv.length = n) {A : List (Nat × Value)} (h2 : ∀ i v, lv[i]? = some (some v) → (v.category = 1 ∨ lv[i + 1]? = some none) → (i, v) ∈ A) {ls' : Array Slot} (h : lv_has ls' n ((i, .long x) :: A.filter (fun q => !(q.1 == i) && (!(q.1 == i + 1) && !(q.1 + 1 == i && q.2.category == 2))))) : za_l n ((lv.set i (some (.long x))).set (i + 1) none) ls' := by
  refine ⟨by rw [List.length_set, List.length_set]; exact hl, _, h, fun j w hj hw => ?_⟩
  by_cases hj1 : j = i + 1
  · subst hj1
    rw [List.getElem?_set] at hj
    simp only [if_true] at hj
    split at hj
    · cases hj
    · cases hj
  · rw [List.getElem?_set_ne (Ne.symm hj1)] at hj
    by_cases hji : j = i
    · subst hji
      rw [List.getElem?_set] at hj
      simp only [if_true] at hj
      split at hj
      · cases hj
        exact List.mem_cons_self
      · cases hj
    · rw [List.getElem?_set_ne (Ne.symm hji)] at hj
      rcases hw with hw | hw
      · exact List.mem_cons_of_mem _ (List.mem_filter.mpr ⟨h2 j w hj (Or.inl hw), by simp [hji, hj1, hw]⟩)
      · rw [List.getElem?_set_ne (fun z => hji (by omega))] at hw
        by_cases hj2 : j + 1 = i
        · subst hj2
          rw [List.getElem?_set] at hw
          simp only [if_true] at hw
          split at hw
          · cases hw
          · cases hw
        · rw [List.getElem?_set_ne (Ne.symm hj2)] at hw
          exact List.mem_cons_of_mem _ (List.mem_filter.mpr ⟨h2 j w hj (Or.inr hw), by simp [hji, hj1, hj2]⟩)
/-- the locals at a method's entry -/
def za_la : List Value → za_L
  | [] => []
  | v :: vs => if v.category = 2 then some v :: none :: za_la vs else some v :: za_la vs
theorem za_la_len (as : List Value) : (za_la as).length = (lg_sl as).length := by
  induction as with
  | nil => rfl
  | cons v vs ih =>
    have e : lg_sl (v :: vs) = (if v.category = 2 then [Slot.val v, Slot.second] else [Slot.val v]) ++ lg_sl vs := rfl
    rw [e]
    unfold za_la
    split <;> simp [ih]
theorem za_la_in (as : List Value) : ∀ (k i : Nat) (v : Value), (za_la as)[i]? = some (some v) → (k + i, v) ∈ lv_args k as := by
  induction as with
  | nil => intro k i v h; simp [za_la] at h
  | cons w ws ih =>
    intro k i v h
    unfold za_la at h
    by_cases hc : w.category = 2
    · rw [if_pos hc] at h
      match i with
      | 0 => simp at h; subst h; simp [lv_args]
      | 1 => simp at h
      | i + 2 =>
        simp at h
        have := ih (k + 2) i v h
        have e2 : k + (i + 2) = k + 2 + i := by omega
        rw [e2]
        simp only [lv_args, hc, if_true]
        exact List.mem_cons_of_mem _ this
    · rw [if_neg hc] at h
      match i with
      | 0 => simp at h; subst h; simp [lv_args]
      | i + 1 =>
        simp at h
        have := ih (k + 1) i v h
        have e2 : k + (i + 1) = k + 1 + i := by omega
        rw [e2]
        simp only [lv_args, hc, if_false]
        exact List.mem_cons_of_mem _ this
theorem za_l.entry2 (as : List Value) (n : Nat) (hn : (lg_sl as).length ≤ n) : za_l n (za_la as ++ List.replicate (n - (za_la as).length) none) ((lg_sl as ++ List.replicate (n - (lg_sl as).length) Slot.unset).toArray) := by
  refine ⟨by rw [List.length_append, List.length_replicate, za_la_len]; omega, _, lv_entry as hn, fun i v hi _ => ?_⟩
  rw [List.getElem?_append] at hi
  split at hi
  · have := za_la_in as 0 i v hi
    simpa using this
  · have := List.eq_of_mem_replicate (List.mem_of_getElem? hi)
    cases this
theorem za_la_1 (as : List Value) (hc : ∀ v ∈ as, v.category = 1) : za_la as = as.map some ∧ lg_sl as = as.map Slot.val := by
  induction as with
  | nil => exact ⟨rfl, rfl⟩
  | cons v vs ih =>
    have h1 : v.category = 1 := hc v List.mem_cons_self
    have h2 := ih (fun w hw => hc w (List.mem_cons_of_mem _ hw))
    have e : lg_sl (v :: vs) = (if v.category = 2 then [Slot.val v, Slot.second] else [Slot.val v]) ++ lg_sl vs := rfl
    rw [e, h2.2]
    unfold za_la
    rw [h2.1]
    simp [h1]
theorem za_l.entry (as : List Value) (n : Nat) (hn : as.length ≤ n) (hc : ∀ v ∈ as, v.category = 1) : za_l n (as.map some ++ List.replicate (n - as.length) none) ((as.map Slot.val ++ List.replicate (n - as.length) Slot.unset).toArray) := by
  obtain ⟨e1, e2⟩ := za_la_1 as hc
  have h := za_l.entry2 as n (by rw [e2]; simpa using hn)
  rw [e1, e2] at h
  simpa using h
