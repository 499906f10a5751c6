/-! THE PLAIN LAYER (7): a fragment is sound -/
theorem za_aw : ∀ t : ArrayType, t = .int → Jvm.Cond.arrayClass (newarray.typeOf t) ∈ lw_tbl := by
  intro t ht
  subst ht
  decide +kernel
section ZG
variable {C : za_C}
theorem za_tgE {pc : Nat} {off : Int} {k : Nat → Prop} (h : za_tg pc off k) : ∃ t : Nat, (pc : Int) + off = (t : Int) ∧ k t := ⟨((pc : Int) + off).toNat, (Int.toNat_of_nonneg h.1).symm, h.2⟩
theorem za_ex_ok (X : za_X C) {hx : List Nat} (hht : za_ht C.M.y.cls C.M.hh hx) {nx : za_N} (hnx : ∀ pc ls st h c s, nx pc ls st h c s → za_w C pc ls st h c s) {pc : Nat} {ls : za_L} {k : Nat} {h : za_H} {c s : Nat} (he : za_ex C.M.hh hx C.mc C.ms C.K nx pc ls k h c s) : za_xw C pc ls k h c s := by
  unfold za_ex at he
  split at he
  · rename_i hh
    exact za_xout X hh he.1 he.2.1 he.2.2
  · rename_i hh
    split at he
    · rename_i hp hf
      exact za_xin X hht hf (fun q => hnx _ _ _ _ _ _ (he q))
    · exact he.elim
theorem za_s_ok (X : za_X C) {lk : za_LK} {hx : List Nat} {ini : Bool} (hlk : za_lk C.M.y.cls lk) (hht : za_ht C.M.y.cls C.M.hh hx) (hini : ini = true → C.M.y.name = "<init>") {nx : za_N} (hnx : ∀ pc ls st h c s, nx pc ls st h c s → za_w C pc ls st h c s)
    {i : Instr} {len pc : Nat} {ls : za_L} {st : List Value} {h : za_H} {c s : Nat} (d : decode C.M.cc pc = .ok (i, len)) (hs : za_s C.G C.M.cc C.M.ret C.M.hh hx ini C.M.fr lk C.mc C.ms C.K nx i len pc ls st h c s) : za_w C pc ls st h c s := by
  have hex := fun (pc : Nat) (ls : za_L) (k : Nat) (h : za_H) (c s : Nat) (he : za_ex C.M.hh hx C.mc C.ms C.K nx pc ls k h c s) => za_ex_ok X hht hnx he
  cases i with
  | iconst n => obtain ⟨rfl, hs⟩ := hs; exact za_iconst X d (hnx _ _ _ _ _ _ hs)
  | bipush n => obtain ⟨rfl, hs⟩ := hs; exact za_bipush X d (hnx _ _ _ _ _ _ hs)
  | sipush n => obtain ⟨rfl, hs⟩ := hs; exact za_sipush X d (hnx _ _ _ _ _ _ hs)
  | lconst n => obtain ⟨rfl, hs⟩ := hs; exact za_lconst X d (hnx _ _ _ _ _ _ hs)
  | aconst_null => obtain ⟨rfl, hs⟩ := hs; exact za_null X d (hnx _ _ _ _ _ _ hs)
  | iload_n k =>
    obtain ⟨rfl, hs⟩ := hs
    split at hs
    · rename_i x hq
      rw [za_fn_ok] at hq
      exact za_iload_n X d hq (hnx _ _ _ _ _ _ hs)
    · exact hs.elim
  | iload k =>
    obtain ⟨rfl, hs⟩ := hs
    split at hs
    · rename_i x hq
      exact za_iload X d hq (hnx _ _ _ _ _ _ hs)
    · exact hs.elim
  | aload_n k =>
    obtain ⟨rfl, hs⟩ := hs
    split at hs
    · rename_i x hq
      rw [za_fn_ok] at hq
      exact za_aload_n X d hq hs.1 (hnx _ _ _ _ _ _ hs.2)
    · exact hs.elim
  | aload k =>
    obtain ⟨rfl, hs⟩ := hs
    split at hs
    · rename_i x hq
      exact za_aload X d hq hs.1 (hnx _ _ _ _ _ _ hs.2)
    · exact hs.elim
  | istore_n k =>
    obtain ⟨rfl, hs⟩ := hs
    split at hs
    · rw [za_fn_ok] at hs
      exact za_istore_n X d hs.1 (hnx _ _ _ _ _ _ hs.2)
    · exact hs.elim
  | istore k =>
    obtain ⟨rfl, hs⟩ := hs
    split at hs
    · exact za_istore X d hs.1 (hnx _ _ _ _ _ _ hs.2)
    · exact hs.elim
  | astore_n k =>
    obtain ⟨rfl, hs⟩ := hs
    split at hs
    · rw [za_fn_ok] at hs
      exact za_astore_n X d hs.2.1 hs.1 (hnx _ _ _ _ _ _ hs.2.2)
    · exact hs.elim
  | astore k =>
    obtain ⟨rfl, hs⟩ := hs
    split at hs
    · exact za_astore X d hs.2.1 hs.1 (hnx _ _ _ _ _ _ hs.2.2)
    · exact hs.elim
  | iinc k n =>
    obtain ⟨rfl, hs⟩ := hs
    split at hs
    · rename_i x hq
      exact za_iinc X d hq (hnx _ _ _ _ _ _ hs)
    · exact hs.elim
  | iadd =>
    obtain ⟨rfl, hs⟩ := hs
    split at hs
    · exact za_iadd X d (hnx _ _ _ _ _ _ hs)
    · exact hs.elim
  | isub =>
    obtain ⟨rfl, hs⟩ := hs
    split at hs
    · exact za_isub X d (hnx _ _ _ _ _ _ hs)
    · exact hs.elim
  | imul =>
    obtain ⟨rfl, hs⟩ := hs
    split at hs
    · exact za_imul X d (hnx _ _ _ _ _ _ hs)
    · exact hs.elim
  | idiv =>
    obtain ⟨rfl, hs⟩ := hs
    split at hs
    · exact za_idiv X d (by rw [← nI_0]; exact hs.1) (hnx _ _ _ _ _ _ hs.2)
    · exact hs.elim
  | irem =>
    obtain ⟨rfl, hs⟩ := hs
    split at hs
    · exact za_irem X d (by rw [← nI_0]; exact hs.1) (hnx _ _ _ _ _ _ hs.2)
    · exact hs.elim
  | lload_n k =>
    obtain ⟨rfl, hs⟩ := hs
    split at hs
    · rename_i hq1 hq2
      rw [za_fn_ok] at hq1 hq2
      exact za_lload_n X d hq1 hq2 (hnx _ _ _ _ _ _ hs)
    · exact hs.elim
  | lload k =>
    obtain ⟨rfl, hs⟩ := hs
    split at hs
    · rename_i hq1 hq2
      exact za_lload X d hq1 hq2 (hnx _ _ _ _ _ _ hs)
    · exact hs.elim
  | lstore k =>
    obtain ⟨rfl, hs⟩ := hs
    split at hs
    · exact za_lstore X d hs.1 (hnx _ _ _ _ _ _ hs.2)
    · exact hs.elim
  | lshl =>
    obtain ⟨rfl, hs⟩ := hs
    split at hs
    · exact za_lshl X d (hnx _ _ _ _ _ _ hs)
    · exact hs.elim
  | lshr =>
    obtain ⟨rfl, hs⟩ := hs
    split at hs
    · exact za_lshr X d (hnx _ _ _ _ _ _ hs)
    · exact hs.elim
  | land =>
    obtain ⟨rfl, hs⟩ := hs
    split at hs
    · exact za_land X d (hnx _ _ _ _ _ _ hs)
    · exact hs.elim
  | lor =>
    obtain ⟨rfl, hs⟩ := hs
    split at hs
    · exact za_lor X d (hnx _ _ _ _ _ _ hs)
    · exact hs.elim
  | ldc idx =>
    obtain ⟨rfl, hs⟩ := hs
    split at hs
    · rename_i v hq
      exact za_ldc X d (hlk.2.2.2.2.2 _ _ hq) (hnx _ _ _ _ _ _ hs)
    · exact hs.elim
  | iand =>
    obtain ⟨rfl, hs⟩ := hs
    split at hs
    · exact za_iand X d (hnx _ _ _ _ _ _ hs)
    · exact hs.elim
  | ior =>
    obtain ⟨rfl, hs⟩ := hs
    split at hs
    · exact za_ior X d (hnx _ _ _ _ _ _ hs)
    · exact hs.elim
  | ixor =>
    obtain ⟨rfl, hs⟩ := hs
    split at hs
    · exact za_ixor X d (hnx _ _ _ _ _ _ hs)
    · exact hs.elim
  | ishl =>
    obtain ⟨rfl, hs⟩ := hs
    split at hs
    · exact za_ishl X d (hnx _ _ _ _ _ _ hs)
    · exact hs.elim
  | ishr =>
    obtain ⟨rfl, hs⟩ := hs
    split at hs
    · exact za_ishr X d (hnx _ _ _ _ _ _ hs)
    · exact hs.elim
  | i2l =>
    obtain ⟨rfl, hs⟩ := hs
    split at hs
    · exact za_i2l X d (hnx _ _ _ _ _ _ hs)
    · exact hs.elim
  | lcmp =>
    obtain ⟨rfl, hs⟩ := hs
    split at hs
    · exact za_lcmp X d (hnx _ _ _ _ _ _ hs)
    · exact hs.elim
  | dup =>
    obtain ⟨rfl, hs⟩ := hs
    split at hs
    · exact za_dup X d hs.1 (hnx _ _ _ _ _ _ hs.2)
    · exact hs.elim
  | dup_x1 =>
    obtain ⟨rfl, hs⟩ := hs
    split at hs
    · exact za_dup_x1 X d hs.1 hs.2.1 (hnx _ _ _ _ _ _ hs.2.2)
    · exact hs.elim
  | dup2 =>
    obtain ⟨rfl, hs⟩ := hs
    split at hs
    · exact za_dup2 X d hs.1 hs.2.1 (hnx _ _ _ _ _ _ hs.2.2)
    · exact hs.elim
  | pop =>
    obtain ⟨rfl, hs⟩ := hs
    split at hs
    · exact za_pop X d hs.1 (hnx _ _ _ _ _ _ hs.2)
    · exact hs.elim
  | goto off =>
    obtain ⟨rfl, hs⟩ := hs
    obtain ⟨t, ht, hs⟩ := za_tgE hs
    exact za_goto X d ht (hnx _ _ _ _ _ _ hs)
  | if_icmp op off =>
    obtain ⟨rfl, hs⟩ := hs
    split at hs
    · exact za_icmp X d (Int.toNat_of_nonneg hs.1).symm (fun q => hnx _ _ _ _ _ _ (hs.2.1 q)) (fun q => hnx _ _ _ _ _ _ (hs.2.2 q))
    · exact hs.elim
  | ifCond op off =>
    obtain ⟨rfl, hs⟩ := hs
    split at hs
    · exact za_ifc X d (Int.toNat_of_nonneg hs.1).symm (fun q => hnx _ _ _ _ _ _ (hs.2.1 (by rw [nI_0]; exact q))) (fun q => hnx _ _ _ _ _ _ (hs.2.2 (by rw [nI_0]; exact q)))
    · exact hs.elim
  | ifnonnull off =>
    obtain ⟨rfl, hs⟩ := hs
    split at hs
    · exact za_nonnull X d (Int.toNat_of_nonneg hs.2.1).symm hs.1 (fun q => hnx _ _ _ _ _ _ (hs.2.2.1 q)) (fun q => hnx _ _ _ _ _ _ (hs.2.2.2 (fun z => z q)))
    · exact hs.elim
  | if_acmp op off =>
    obtain ⟨rfl, hs⟩ := hs
    split at hs
    · obtain ⟨h1, h2, h3, h4, h5⟩ := hs
      cases op with
      | eq => exact za_acmp_eq X d (Int.toNat_of_nonneg h3).symm h1 h2 (fun q => hnx _ _ _ _ _ _ (h4 q)) (fun q => hnx _ _ _ _ _ _ (h5 q))
      | ne => exact za_acmp_ne X d (Int.toNat_of_nonneg h3).symm h1 h2 (fun q => hnx _ _ _ _ _ _ (h4 q)) (fun q => hnx _ _ _ _ _ _ (h5 (fun z => z q)))
    · exact hs.elim
  | tableswitch dflt lo hi offs =>
    simp only [za_s] at hs
    split at hs
    · rename_i x st'
      by_cases hp : x.toInt < lo ∨ hi < x.toInt
      · obtain ⟨t, ht, hs⟩ := za_tgE (hs.1 hp)
        exact za_tableOut X d hp ht (hnx _ _ _ _ _ _ hs)
      · have h2 := hs.2 hp
        split at h2
        · rename_i off ho
          obtain ⟨t, ht, h3⟩ := za_tgE h2
          exact za_tableIn X d (fun q => hp (Or.inl q)) (fun q => hp (Or.inr q)) ho ht (hnx _ _ _ _ _ _ h3)
        · exact h2.elim
    · exact hs.elim
  | iaload =>
    obtain ⟨rfl, hs⟩ := hs
    split at hs
    · split at hs
      · rename_i ha
        exact za_iald X d ha hs.1 (hnx _ _ _ _ _ _ hs.2)
      · exact hs.elim
    · exact hs.elim
  | baload =>
    obtain ⟨rfl, hs⟩ := hs
    split at hs
    · split at hs
      · rename_i ha
        exact za_zald X d ha hs.1 (hnx _ _ _ _ _ _ hs.2)
      · exact hs.elim
    · exact hs.elim
  | laload =>
    obtain ⟨rfl, hs⟩ := hs
    split at hs
    · split at hs
      · rename_i ha
        exact za_lald X d ha hs.1 (hnx _ _ _ _ _ _ hs.2)
      · exact hs.elim
    · exact hs.elim
  | aaload =>
    obtain ⟨rfl, hs⟩ := hs
    split at hs
    · split at hs
      · rename_i ha
        exact za_aald X d ha hs.1 (hnx _ _ _ _ _ _ hs.2)
      · exact hs.elim
    · exact hs.elim
  | iastore =>
    obtain ⟨rfl, hs⟩ := hs
    split at hs
    · split at hs
      · rename_i ha
        exact za_iast X d ha hs.1 (hnx _ _ _ _ _ _ hs.2)
      · exact hs.elim
    · exact hs.elim
  | bastore =>
    obtain ⟨rfl, hs⟩ := hs
    split at hs
    · split at hs
      · rename_i ha
        exact za_zast X d ha hs.1 hs.2.1 (hnx _ _ _ _ _ _ hs.2.2)
      · exact hs.elim
    · exact hs.elim
  | lastore =>
    obtain ⟨rfl, hs⟩ := hs
    split at hs
    · split at hs
      · rename_i ha
        exact za_last X d ha hs.1 (hnx _ _ _ _ _ _ hs.2)
      · exact hs.elim
    · exact hs.elim
  | aastore =>
    obtain ⟨rfl, hs⟩ := hs
    split at hs
    · split at hs
      · rename_i ha
        exact za_aastN X d ha hs.1 (hnx _ _ _ _ _ _ hs.2)
      · exact hs.elim
    · split at hs
      · rename_i ha
        obtain ⟨h1, ⟨ci, ⟨fs, h2⟩, r, h3, h4⟩, h5⟩ := hs
        exact za_aast X d ha h2 h3 h4 h1 (hnx _ _ _ _ _ _ h5)
      · exact hs.elim
    · exact hs.elim
  | arraylength =>
    obtain ⟨rfl, hs⟩ := hs
    split at hs
    · split at hs
      · rename_i ha
        exact za_alen X d ha (hnx _ _ _ _ _ _ hs)
      · obtain ⟨rfl, hs⟩ := hs
        exact za_alenT X d (by rw [← nI_0]; exact hnx _ _ _ _ _ _ hs)
    · exact hs.elim
  | getfield idx =>
    obtain ⟨rfl, hs⟩ := hs
    split at hs
    · split at hs
      · rename_i hf
        split at hs
        · rename_i ha
          obtain ⟨rfl, hs⟩ := hs
          split at hs
          · rename_i hv
            exact za_get X d (hlk.1 _ _ hf) ha hv (hnx _ _ _ _ _ _ hs)
          · exact hs.elim
        · exact hs.elim
      · exact hs.elim
    · exact hs.elim
  | putfield idx =>
    obtain ⟨rfl, hs⟩ := hs
    split at hs
    · split at hs
      · rename_i hf
        split at hs
        · rename_i ha
          obtain ⟨rfl, h1, h2, h3, hs⟩ := hs
          exact za_put X d (hlk.1 _ _ hf) (h2.elim Or.inl (fun q => Or.inr ⟨q.1, hini q.2⟩)) ha h1 h3 (hnx _ _ _ _ _ _ hs)
        · exact hs.elim
      · exact hs.elim
    · exact hs.elim
  | new idx =>
    obtain ⟨rfl, hs⟩ := hs
    split at hs
    · rename_i hn
      exact za_new X d (hlk.2.2.1 _ _ hn) hs.1 hs.2.1 (fun q hq => hnx _ _ _ _ _ _ (hs.2.2 q hq))
    · split at hs
      · rename_i ht
        obtain ⟨h1, h2, h3, h4, h5, h6, h7, h8⟩ := hs
        split at h8
        · rename_i hd
          exact za_throw X h1 (hlk.2.2.2.1 _ _ _ ht h8.1) d h6 hd h8.2.1 h8.2.2 h2 h3 h4 h5 h7
        · rename_i hd
          exact za_throwW X h1 (hlk.2.2.2.1 _ _ _ ht h8.1) d h6 hd h8.2.1 h8.2.2 h2 h3 h4 h5 h7
        · exact h8.elim
      · exact hs.elim
  | newarray t =>
    obtain ⟨rfl, hs⟩ := hs
    split at hs
    · obtain ⟨h1, h2, h3, h4, h5, h6⟩ := hs
      exact za_newa X d h1 (za_aw t h1) h2 h3 h4 h5 (fun q hq => hnx _ _ _ _ _ _ (h6 q hq))
    · exact hs.elim
  | checkcast idx =>
    obtain ⟨rfl, hs⟩ := hs
    split at hs
    · split at hs
      · rename_i hc
        obtain ⟨⟨fs, h1⟩, hs⟩ := hs
        obtain ⟨r, h2, h3⟩ := hlk.2.2.2.2.1 _ _ hc
        exact za_cast X d h1 h2 h3 (hnx _ _ _ _ _ _ hs)
      · exact hs.elim
    · exact hs.elim
  | invokevirtual idx =>
    obtain ⟨rfl, hs⟩ := hs
    split at hs
    · rename_i n ci f M hm
      obtain ⟨hfr, hs⟩ := hs
      split at hs
      · rename_i b rest hdr
        obtain ⟨⟨fs, hb⟩, hr, mc', ms', hc, hs', hP⟩ := hs
        obtain ⟨hMf, hmv, r, hr1, hr2⟩ := hlk.2.1 _ _ hm
        have hlen : n ≤ st.length := by
          by_cases hle : n ≤ st.length
          · exact hle
          · rw [List.drop_eq_nil_of_le (by omega)] at hdr; cases hdr
        have hst : st = ((st.take n).reverse).reverse ++ .ref b :: rest := by rw [List.reverse_reverse, ← hdr, List.take_append_drop]
        rw [hst]
        have hMf' : M.fr = f := hMf
        exact za_invV X d hmv (by simp; omega) hb hr1 hr2 (by rw [hMf']; exact hfr) hr hc hs' hP (fun v h' q => hnx _ _ _ _ _ _ q) (fun k h' q => hex _ _ _ _ _ _ q)
      · exact hs.elim
    · exact hs.elim
  | invokestatic idx =>
    obtain ⟨rfl, hs⟩ := hs
    split at hs
    · rename_i n ci f M hm
      obtain ⟨hfr, hlen, hr, mc', ms', hc, hs', hP⟩ := hs
      obtain ⟨hMf, hmv⟩ := hlk.2.1 _ _ hm
      have hst : st = ((st.take n).reverse).reverse ++ st.drop n := by rw [List.reverse_reverse, List.take_append_drop]
      rw [hst]
      have hMf' : M.fr = f := hMf
      exact za_invS X d hmv (by simp; omega) (by rw [hMf']; exact hfr) hr hc hs' hP (fun v h' q => hnx _ _ _ _ _ _ q) (fun k h' q => hex _ _ _ _ _ _ q)
    · rename_i n ci f M hm
      obtain ⟨hfr, hlen, hr, mc', ms', hc, hs', hP⟩ := hs
      obtain ⟨hMf, hmv⟩ := hlk.2.1 _ _ hm
      have hst : st = ((st.take n).reverse).reverse ++ st.drop n := by rw [List.reverse_reverse, List.take_append_drop]
      rw [hst]
      have hMf' : M.fr = f := hMf
      exact za_invN X d hmv (by simp; omega) (by rw [hMf']; exact hfr) hr hc hs' hP (fun v h' q => hnx _ _ _ _ _ _ q) (fun k h' q => hex _ _ _ _ _ _ q)
    · rename_i hm
      obtain ⟨-, w1, w2, w3, w4⟩ := hlk.2.1 _ _ hm
      obtain ⟨hfr, hc, hs', hs⟩ := hs
      split at hs
      · exact za_mmax X d w1 w2 w3 w4 hfr hc hs' hs.1 (hnx _ _ _ _ _ _ hs.2)
      · exact hs.elim
    · rename_i hm
      obtain ⟨-, w1, w2, w3, w4⟩ := hlk.2.1 _ _ hm
      obtain ⟨hfr, hc, hs', hs⟩ := hs
      split at hs
      · exact za_mmin X d w1 w2 w3 w4 hfr hc hs' hs.1 (hnx _ _ _ _ _ _ hs.2)
      · exact hs.elim
    · exact hs.elim
  | invokespecial idx =>
    obtain ⟨rfl, hs⟩ := hs
    split at hs
    · rename_i n ci f M hm
      obtain ⟨hfr, hs⟩ := hs
      split at hs
      · rename_i b rest hdr
        obtain ⟨hr, mc', ms', hc, hs', hP⟩ := hs
        obtain ⟨hMf, hmv⟩ := hlk.2.1 _ _ hm
        have hlen : n ≤ st.length := by
          by_cases hle : n ≤ st.length
          · exact hle
          · rw [List.drop_eq_nil_of_le (by omega)] at hdr; cases hdr
        have hst : st = ((st.take n).reverse).reverse ++ .ref b :: rest := by rw [List.reverse_reverse, ← hdr, List.take_append_drop]
        rw [hst]
        have hMf' : M.fr = f := hMf
        exact za_invI X d hmv (by simp; omega) (by rw [hMf']; exact hfr) hr hc hs' hP (fun v h' q => hnx _ _ _ _ _ _ q) (fun k h' q => hex _ _ _ _ _ _ q)
      · exact hs.elim
    · rename_i hm
      obtain ⟨hfr, hs⟩ := hs
      split at hs
      · obtain ⟨hr, hs⟩ := hs
        obtain ⟨-, h1, h2, h3⟩ := hlk.2.1 _ _ hm
        exact za_objInit X d h1 h2 h3 hfr hr (hnx _ _ _ _ _ _ hs)
      · exact hs.elim
    · exact hs.elim
  | ireturn =>
    obtain ⟨rfl, hs⟩ := hs
    split at hs
    · rename_i hr
      exact za_ireturn X d hr hs.1 hs.2.1 hs.2.2.1 hs.2.2.2
    · exact hs.elim
  | return_ =>
    obtain ⟨rfl, hs⟩ := hs
    split at hs
    · exact za_return X d hs.1 hs.2.1 hs.2.2.1 hs.2.2.2
    · exact hs.elim
  | areturn =>
    obtain ⟨rfl, hs⟩ := hs
    split at hs
    · rename_i hr
      exact za_areturn X d hr (Or.inl ⟨_, rfl⟩) hs.1 hs.2.1 hs.2.2.1 hs.2.2.2
    · rename_i hr
      exact za_areturn X d hr (Or.inr ⟨_, rfl⟩) hs.1 hs.2.1 hs.2.2.1 hs.2.2.2
    · exact hs.elim
  | _ => exact hs.elim
/-- a fragment from pc on is the body from pc on -/
theorem za_f_ok (X : za_X C) {lk : za_LK} {hx : List Nat} {ini : Bool} (hlk : za_lk C.M.y.cls lk) (hht : za_ht C.M.y.cls C.M.hh hx) (hini : ini = true → C.M.y.name = "<init>") {cuts : Nat → Bool} : ∀ (n pc : Nat) (ls : za_L) (st : List Value) (h : za_H) (c s : Nat), za_f C.G C.M.cc C.M.ret C.M.hh hx ini C.M.fr lk C.mc C.ms C.K cuts (za_w C) n pc ls st h c s → za_w C pc ls st h c s := by
  intro n
  induction n with
  | zero => intro pc ls st h c s hf; exact hf
  | succ n ih =>
    intro pc ls st h c s hf
    rw [za_f_eq] at hf
    split at hf
    · rename_i i len d
      refine za_s_ok X hlk hht hini (fun pc' ls' st' h' c' s' hg => ?_) d hf
      rw [za_go_eq] at hg
      split at hg
      · exact hg
      · exact ih _ _ _ _ _ _ hg
    · exact hf.elim
end ZG
/-- a method by its body: w is the body at a point; it may be shown by a fragment, at any point; K0: what is to be shown at the entry -/
theorem za_meth {G : za_G} {M : za_M} {lk : za_LK} {hx : List Nat} {ini : Bool} {cuts : Nat → Bool} {as : List Value} {h : za_H} {mc ms : Nat} {K : za_O → za_H → Prop} (F : za_F G) (hlk : za_lk M.y.cls lk) (hht : za_ht M.y.cls M.hh hx) (hini : ini = true → M.y.name = "<init>") (hpl : plainName M.y.cls = true) (has : as.length ≤ M.nL) (hcat : ∀ v ∈ as, v.category = 1)
    (body : ∀ w : za_N, (∀ (n pc : Nat) (ls : za_L) (st : List Value) (h : za_H) (c s : Nat), za_f G M.cc M.ret M.hh hx ini M.fr lk mc ms K cuts w n pc ls st h c s → w pc ls st h c s) → w 0 (as.map some ++ List.replicate (M.nL - as.length) none) [] h 0 0) : za_P G M as h mc ms K := by
  have start : ∀ p e s m args below meth c s₁, BodyLoose p G.l M.y (headSpec [za_cw M] (za_rm M.fr mc ms)) M.cc M.nL M.ret e s m args below meth c s₁ → c.maxLocals = M.nL → c.exceptionTable.toList = tableOf M.hh → za_Pc G as h args s →
      W p G.l e (headSpec [za_cw M] (za_rm M.fr mc ms)).room s m args below meth c s.heap [] 0 0 (vx_MQ below (za_Qc G K) (za_Xc G K) args s mc ms (za_A G)) (entryFrame m args M.nL) := by
    intro p e s m args below meth c s₁ B hml ht hPc
    obtain ⟨rfl, hW, hR⟩ := hPc
    have X : za_X (G, M, mc, ms, K, p, e, s, m, as.toArray, below, meth, c) := ⟨B.exec, B.bytes, hml, findClass_of_methodNamed B.named, B.notSynchronized, hW, F, (name_of_methodNamed B.named B.method).1, B.returns, ht⟩
    have hb := body (za_w (G, M, mc, ms, K, p, e, s, m, as.toArray, below, meth, c)) (za_f_ok X hlk hht hini)
    have h9 := hb s.heap [] _ hR hW.2 (fun z hz => by cases hz) (za_l.entry as M.nL has hcat)
    rw [entry_eq m as hcat]
    exact h9
  unfold za_P
  cases hh : M.hh with
  | nil =>
    have ec : za_cw M = .code M.y M.cc M.nL M.ret := za_cwc hh
    refine vx_ofW (cc := M.cc) (maxL := M.nL) (ret := M.ret) (ws' := []) hpl (by rw [ec]) ?_
    intro p e s m args below meth c s₁ B hml ht hPc
    refine start p e s m args below meth c s₁ B hml ?_ hPc
    rw [hh]
    exact List.eq_nil_iff_forall_not_mem.mpr ht
  | cons t ts =>
    have ec : za_cw M = .codeWith M.y M.cc M.nL M.ret M.hh := by unfold za_cw; rw [hh]
    refine vx_ofWH (cc := M.cc) (maxL := M.nL) (ret := M.ret) (hh := M.hh) (ws' := []) hpl (by rw [ec]) ?_
    intro p e s m args below meth c s₁ B hml hPc
    refine start p e s m args below meth c s₁ B hml ?_ hPc
    exact vx_table (x := M.y) B (bytes := M.cc) (maxL' := M.nL) (ret' := M.ret) (by rw [← ec]; exact atoms_spec (ws := [za_cw M]) B.pre _ List.mem_cons_self)
