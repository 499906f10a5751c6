/-! THE CLASS (4): the draft -/
/-- a part's numbers -/
def zpart (S : zS) (i j a b c : Nat) : zS := zup (zup (zup (zup (zup S 30 i j a) 31 i j b) 32 i j c) 33 i j 0) 34 i j 0
theorem zpart_n (S : zS) {i j a b c f : Nat} (h : f ≤ 29 ∨ 35 ≤ f) : zpart S i j a b c f = S f := by
  funext i' j'
  unfold zpart
  rw [zup_n _ (by omega), zup_n _ (by omega), zup_n _ (by omega), zup_n _ (by omega), zup_n _ (by omega)]
theorem zpart_c (B : zB) (S : zS) (T : zT) (i j a b c : Nat) : zcon B (zpart S i j a b c) T (1, i, j) = .inr (3, [.int (nI a), .int (nI b), .int (z1 c), .int (nI 0), .int (nI 0)]) := by
  rw [zc_1]
  unfold zpart
  simp [zup]
theorem zpart_o {B : zB} {S : zS} {T : zT} {i j a b c : Nat} {r : zQ} (h : r ≠ (1, i, j)) : zcon B (zpart S i j a b c) T r = zcon B S T r := by
  unfold zpart
  rw [zcon_zup h, zcon_zup h, zcon_zup h, zcon_zup h, zcon_zup h]
theorem zup_o (S : zS) {f i j v g : Nat} (h : g ≠ f) : zup S f i j v g = S g := by
  funext i' j'
  exact zup_n _ (fun z => h z.1)
/-- the state with a part more in the draft -/
def zdraft (S : zS) (a b c : Nat) : zS := zup (zpart S (S 10 0 0) (S 15 (S 10 0 0) 0) a b c) 15 (S 10 0 0) 0 (S 15 (S 10 0 0) 0 + 1)
section ZCD
variable {G : za_G} {A : zA} {B : zB} {S : zS} {T : zT} {r0 : za_H}
theorem m_addToDraft (F : za_F G) (I : zI G A B S r0) (hn : S 15 (S 10 0 0) 0 ≤ 10) {v a b c : Nat} (hv : A.2 v = none) (hvt : v ≠ G.t) (h0 : r0 v = some (.inr (3, [.int (nI a), .int (nI b), .int (z1 c), .int (nI 0), .int (nI 0)]))) (K : za_O → za_H → Prop)
    (q1 : S 15 (S 10 0 0) 0 = 10 → K (.inr 1) (zmk A B S T r0))
    (q2 : S 15 (S 10 0 0) 0 < 10 → ∀ A' B' r0', zX A B A' B' → zI G A' B' (zdraft S a b c) r0' → K (.inl (some (.int (nI (S 15 (S 10 0 0) 0 + 1))))) (zmk A' B' (zdraft S a b c) T r0')) : za_P G mX7_addToDraft [.ref (A.1 (0, 0, 0)), .ref v] (zmk A B S T r0) 1 20 K := by
  obtain ⟨J, C⟩ := I
  have hl := J.l (k := 15) (i := S 10 0 0) (Nat.le_refl _)
  have hb := J.r.2.1
  refine za_m (y := yX7_addToDraft) (cc := cX7_addToDraft) (nL := 2) (ret := (some .int)) (hh := []) (fr := 7) (lk := lkX7) (hx := []) (ini := false) (cuts := fun p => false) F okX7 trivial (by decide +kernel) (by decide +kernel) (Nat.le_of_ble_eq_true rfl) (by simp [Value.category]) (fun w hw => ?_)
  refine hw 60 _ _ _ _ _ _ ?_
  simp only [za_lv_0, za_lv_s, za_isI_i, za_rf_r, za_rf_n, za_rf_v, za_ck_r, za_isC_eq, zs_f, zs_d, zs_iconst, zs_bipush, zs_sipush, zs_lconst, zs_null, zs_iload_n, zs_iload, zs_aload_n, zs_aload, za_iv_i, zs_iinc, zs_istore_n, zs_istore, zs_astore_n, zs_astore, zs_iadd, zs_isub, zs_imul, zs_iand, zs_ior, zs_ixor, zs_ishl, zs_ishr, zs_idiv, zs_irem, zs_lshl, zs_lshr, zs_land, zs_lor, zs_lstore, za_lg_0, za_lg_s, za_ll_s, za_lc_s, zs_lload_n, zs_lload, zs_ldc, zs_i2l, zs_lcmp, zs_dup, zs_dup_x1, zs_dup2, zs_pop, zs_goto, zs_icmp, zs_ifc, zs_nonnull, zs_acmp_eq, zs_acmp_ne, za_sw_s, zs_switch, za_iaload_s, zs_iaload, za_baload_s, zs_baload, za_laload_s, zs_laload, za_aaload_s, zs_aaload, za_iastore_s, zs_iastore, za_bastore_s, zs_bastore, za_lastore_s, zs_lastore, za_aasN_s, zs_aastoreN, za_aas_s, zs_aastore, za_alg_s, za_alg_n, zs_alen, za_gf_s, za_vl_0, za_vl_s, zs_getfield, za_pf_s, zs_putfield, za_nw_s, za_nw_t, za_tx_1, za_tx_2, zs_th, zs_new, zs_newarray, za_cx_s, zs_checkcast, za_vB_s, za_vA_s, za_sX_s, za_sN_s, za_sA_5, za_sA_6, za_sA_1, za_sA_3, za_oB_s, za_iA_2, za_iA_4, zs_invokevirtual, zs_invokestatic, zs_invokespecial, zs_ireturn, zs_return, zs_areturn, zs_areturnA, za_ex0, za_go_eq, za_fit_i, za_fit_b, za_fit_b0, za_fit_b1, za_fit_r, za_fit_n, za_fit_a, za_up_s, za_upup, za_fn_0, za_fn_1, za_fn_2, za_fn_3, za_cd_eq, za_cd_ne, za_cd_lt, za_cd_ge, za_cd_gt, za_cd_le, za_cat_i, za_cat_r, za_cat_n, zb_n0, zb_n1, zb_narrow, zn_narrow, Option.toList_some, Option.toList_none, List.set_cons_zero, List.set_cons_succ, List.length_cons, List.length_nil, List.take_succ_cons, List.take_zero, List.drop_succ_cons, List.drop_zero, List.reverse_cons, List.reverse_nil, List.nil_append, List.cons_append, List.map_cons, List.map_nil, List.replicate_succ, List.replicate_zero, true_and, and_true, true_or, or_true, false_or, or_false, eq_self, not_true_eq_false, not_false_eq_true, false_implies, true_implies, implies_true, and_self, Nat.zero_add, Nat.add_zero, Nat.le_refl, Nat.zero_le, Nat.reduceEqDiff, if_true, if_false, za_t.eq_1, za_t0.eq_1, Int.cast_ofNat_Int, Int.reduceAdd, Int.reduceToNat, Int.reduceLE, Int.reduceNeg, Nat.reduceAdd, Nat.reduceSub, Nat.reduceBEq, Nat.reduceLT, Nat.reduceLeDiff, ↓reduceIte, Bool.false_eq_true, Bool.or_false, Bool.or_true, Bool.false_or, Bool.true_or, decide_true, decide_false, ge_iff_le, gt_iff_lt, dX7_addToDraft_0, dX7_addToDraft_1, dX7_addToDraft_4, dX7_addToDraft_7, dX7_addToDraft_9, dX7_addToDraft_12, dX7_addToDraft_15, dX7_addToDraft_16, dX7_addToDraft_19, dX7_addToDraft_22, dX7_addToDraft_23, dX7_addToDraft_24, dX7_addToDraft_27, dX7_addToDraft_28, dX7_addToDraft_31, dX7_addToDraft_32, dX7_addToDraft_33, dX7_addToDraft_36, dX7_addToDraft_39, uX7_f28, uX7_n72, uX7_t72, uX7_m88, uX7_m99, uX7_s324, zi_b10, (zmk_at J.x), zc_0, hb, (zmk_at hl.1), zc_15]
  refine za_call (mc' := 0) (ms' := 0) (by omega) (by omega) (l_size F (by omega) hl _ ?_)
  simp only [za_lv_0, za_lv_s, za_isI_i, za_rf_r, za_rf_n, za_rf_v, za_ck_r, za_isC_eq, zs_f, zs_d, zs_iconst, zs_bipush, zs_sipush, zs_lconst, zs_null, zs_iload_n, zs_iload, zs_aload_n, zs_aload, za_iv_i, zs_iinc, zs_istore_n, zs_istore, zs_astore_n, zs_astore, zs_iadd, zs_isub, zs_imul, zs_iand, zs_ior, zs_ixor, zs_ishl, zs_ishr, zs_idiv, zs_irem, zs_lshl, zs_lshr, zs_land, zs_lor, zs_lstore, za_lg_0, za_lg_s, za_ll_s, za_lc_s, zs_lload_n, zs_lload, zs_ldc, zs_i2l, zs_lcmp, zs_dup, zs_dup_x1, zs_dup2, zs_pop, zs_goto, zs_icmp, zs_ifc, zs_nonnull, zs_acmp_eq, zs_acmp_ne, za_sw_s, zs_switch, za_iaload_s, zs_iaload, za_baload_s, zs_baload, za_laload_s, zs_laload, za_aaload_s, zs_aaload, za_iastore_s, zs_iastore, za_bastore_s, zs_bastore, za_lastore_s, zs_lastore, za_aasN_s, zs_aastoreN, za_aas_s, zs_aastore, za_alg_s, za_alg_n, zs_alen, za_gf_s, za_vl_0, za_vl_s, zs_getfield, za_pf_s, zs_putfield, za_nw_s, za_nw_t, za_tx_1, za_tx_2, zs_th, zs_new, zs_newarray, za_cx_s, zs_checkcast, za_vB_s, za_vA_s, za_sX_s, za_sN_s, za_sA_5, za_sA_6, za_sA_1, za_sA_3, za_oB_s, za_iA_2, za_iA_4, zs_invokevirtual, zs_invokestatic, zs_invokespecial, zs_ireturn, zs_return, zs_areturn, zs_areturnA, za_ex0, za_go_eq, za_fit_i, za_fit_b, za_fit_b0, za_fit_b1, za_fit_r, za_fit_n, za_fit_a, za_up_s, za_upup, za_fn_0, za_fn_1, za_fn_2, za_fn_3, za_cd_eq, za_cd_ne, za_cd_lt, za_cd_ge, za_cd_gt, za_cd_le, za_cat_i, za_cat_r, za_cat_n, zb_n0, zb_n1, zb_narrow, zn_narrow, Option.toList_some, Option.toList_none, List.set_cons_zero, List.set_cons_succ, List.length_cons, List.length_nil, List.take_succ_cons, List.take_zero, List.drop_succ_cons, List.drop_zero, List.reverse_cons, List.reverse_nil, List.nil_append, List.cons_append, List.map_cons, List.map_nil, List.replicate_succ, List.replicate_zero, true_and, and_true, true_or, or_true, false_or, or_false, eq_self, not_true_eq_false, not_false_eq_true, false_implies, true_implies, implies_true, and_self, Nat.zero_add, Nat.add_zero, Nat.le_refl, Nat.zero_le, Nat.reduceEqDiff, if_true, if_false, za_t.eq_1, za_t0.eq_1, Int.cast_ofNat_Int, Int.reduceAdd, Int.reduceToNat, Int.reduceLE, Int.reduceNeg, Nat.reduceAdd, Nat.reduceSub, Nat.reduceBEq, Nat.reduceLT, Nat.reduceLeDiff, ↓reduceIte, Bool.false_eq_true, Bool.or_false, Bool.or_true, Bool.false_or, Bool.true_or, decide_true, decide_false, ge_iff_le, gt_iff_lt, dX7_addToDraft_0, dX7_addToDraft_1, dX7_addToDraft_4, dX7_addToDraft_7, dX7_addToDraft_9, dX7_addToDraft_12, dX7_addToDraft_15, dX7_addToDraft_16, dX7_addToDraft_19, dX7_addToDraft_22, dX7_addToDraft_23, dX7_addToDraft_24, dX7_addToDraft_27, dX7_addToDraft_28, dX7_addToDraft_31, dX7_addToDraft_32, dX7_addToDraft_33, dX7_addToDraft_36, dX7_addToDraft_39, uX7_f28, uX7_n72, uX7_t72, uX7_m88, uX7_m99, uX7_s324, zi_b10, (zmk_at J.x), zc_0, hb, (zmk_at hl.1), zc_15]
  simp (disch := omega) only [zn_lt]
  refine ⟨fun q => ?_, fun q => q1 (by omega)⟩
  generalize hg : S 10 0 0 = g at *
  generalize hnn : S 15 g 0 = n at *
  have hnl : ¬ zLv S 1 g n := fun z => by have := z.2; rw [hnn] at this; omega
  obtain ⟨J1, C1, V1, o1⟩ := zJ_ad (S1 := zpart S g n a b c) J C (a := 1) (b := g) (c := n) (by omega) (by omega) hnl hv hvt (fun f hf => zpart_n S (Or.inl hf)) (fun d hd => ⟨by rw [zpart_n S (Or.inr (by omega))], fun k hk => by rw [zpart_n S (Or.inr (by omega))]⟩) (zcon B S T (1, g, n))
  rw [zmk_ad (r := (1, g, n)) (B' := B) (S' := zpart S g n a b c) (T' := T) hv (by rw [zpart_c]; exact h0) (fun r' h => zpart_o h)]
  have e10 : zpart S g n a b c 10 0 0 = g := by rw [zpart_n S (Or.inl (by omega)), hg]
  have e15 : zpart S g n a b c 15 g 0 = n := by rw [zpart_n S (Or.inl (by omega)), hnn]
  generalize hS1 : zpart S g n a b c = S1 at *
  generalize hr1 : zr0 A (1, g, n) (zcon B S T (1, g, n)) r0 = r1 at *
  have hv1 : (zad A (1, g, n) v).1 (1, g, n) = v := zad_s _ _ _
  generalize hA1 : zad A (1, g, n) v = A1 at *
  have hS1' : ∀ f, f ≤ 29 → S1 f = S f := fun f hf => by rw [← hS1]; exact zpart_n S (Or.inl hf)
  have hl1 := J1.l (k := 15) (i := g) (by show g ≤ S1 10 0 0; omega)
  have hb1 := J1.r.2.1
  rw [e10] at hb1
  have eD : zdraft S a b c = zup S1 15 g 0 (n + 1) := by unfold zdraft; rw [hg, hnn, hS1]
  have ex : A1.1 (0, 0, 0) = A.1 (0, 0, 0) := (o1 _ (fun y => by cases y)).1
  have el : A1.1 (15, g, 0) = A.1 (15, g, 0) := (o1 _ (fun y => by cases y)).1
  have hcost : zcost B S1 15 g ≤ 20 := by
    unfold zcost
    split
    · rw [e15]; unfold zcap; split <;> omega
    · omega
  rw [show [Value.ref (A.1 (15, g, 0)), Value.ref v] = [Value.ref (A1.1 (15, g, 0)), Value.ref (A1.1 (1, g, n))] by rw [el, hv1]]
  have z15 : ∀ j, zel (zup S1 15 g 0 (n + 1)) 15 g j = (1, g, j) := fun j => rfl
  refine za_call (mc' := 1) (ms' := zcost B S1 15 g) (by omega) (by omega) (l_add (r := (1, g, n)) (S' := zup S1 15 g 0 (n + 1)) F J1.f J1.n (by omega) hl1 V1 (by rw [← hS1]; exact zpart_c B S T g n a b c) (by rw [zup_s, e15]) (by rw [e15]; exact z15 n) (fun j hj => rfl) (fun r' h0 h1 => zcon_zup (by show r' ≠ (15, g, 0); exact h0)) (by omega) _ ?_)
  intro A' B' r0' hf' hN' hL' hA' hB'
  obtain ⟨b', cap', f', m', rfl, hcap'⟩ := hB'
  have u : ∀ f, f ≠ 15 → zup S1 15 g 0 (n + 1) f = S1 f := fun f h => zup_o S1 h
  have u15 : ∀ i, i ≠ g → zup S1 15 g 0 (n + 1) 15 i 0 = S1 15 i 0 := fun i h => zup_n _ (fun z => h z.2.1)
  have lv : ∀ x y z, zLv (zup S1 15 g 0 (n + 1)) x y z ↔ zLv S1 x y z ∨ ((x, y, z) : zQ) = (1, g, n) := by
    intro x y z
    by_cases hx : x = 1
    · subst hx
      show (y ≤ zup S1 15 g 0 (n + 1) 10 0 0 ∧ z < zup S1 15 g 0 (n + 1) 15 y 0) ↔ (y ≤ S1 10 0 0 ∧ z < S1 15 y 0) ∨ _
      rw [u 10 (by omega), e10]
      by_cases hy : y = g
      · subst hy
        rw [zup_s, e15]
        constructor
        · intro p
          by_cases hz : z = n
          · subst hz; exact Or.inr rfl
          · exact Or.inl ⟨by omega, by omega⟩
        · intro p
          rcases p with p | p
          · exact ⟨by omega, by omega⟩
          · cases p; exact ⟨by omega, by omega⟩
      · rw [u15 y hy]
        exact ⟨Or.inl, fun p => p.elim id (fun p => by cases p; exact absurd rfl hy)⟩
    · have e : zLv (zup S1 15 g 0 (n + 1)) x y z = zLv S1 x y z := by
        unfold zLv
        split
        · exact absurd rfl hx
        all_goals simp only [u 10 (by omega), u 12 (by omega), u 13 (by omega), u 17 (by omega), u 18 (by omega), u 19 (by omega)]
      rw [e]
      exact ⟨Or.inl, fun p => p.elim id (fun p => by cases p; exact absurd rfl hx)⟩
  have lb : ∀ k i, zLb (zup S1 15 g 0 (n + 1)) k i = zLb S1 k i := by
    intro k i
    unfold zLb
    rw [u 10 (by omega), u 12 (by omega), u 19 (by omega)]
  obtain ⟨J2, X2⟩ := zJ_add (S' := zup S1 15 g 0 (n + 1)) J1 (k := 15) (i := g) (by omega) hf' hN' hL' hA' (fun k' i' p z => by
    rw [lb] at p
    refine ⟨p, zup_n _ (fun y => z ⟨y.1, y.2.1⟩), fun j hj => ?_⟩
    unfold zel
    rw [u 20 (by omega), u 21 (by omega)]) (fun x y z x1 x7 p => ((lv x y z).mp p).elim (fun p => J1.v p x1 x7) (fun p => by rw [p]; exact V1)) (by
    obtain ⟨t1, t2, t3, t4, t5⟩ := J1.r
    unfold zRf
    rw [u 10 (by omega), u 12 (by omega), u 17 (by omega), u 19 (by omega), u 49 (by omega), u 55 (by omega)]
    exact ⟨t1, t2, t3, t4, fun d hd => ⟨(t5 d hd).1, (t5 d hd).2.1, fun k hk => ⟨((t5 d hd).2.2 k hk).1, (lv _ _ _).mpr (Or.inl ((t5 d hd).2.2 k hk).2)⟩⟩⟩) (by rw [u 14 (by omega), u 19 (by omega)]; exact J1.p)
  have C2 : zC A' (zup S1 15 g 0 (n + 1)) (fun _ => False) := zC_add C1 (by omega) hA' (fun x y z p => (lv x y z).mpr p)
  have X1 : zX A B A1 B := ⟨fun r hr => ⟨(o1 r (fun y => by subst y; rcases hr with p | p <;> simp at p)).1, (o1 r (fun y => by subst y; rcases hr with p | p <;> simp at p)).2.mpr⟩, rfl, rfl, fun r r1 r7 hz => have hne : r ≠ (1, g, n) := fun y => (C 1 g n (by omega) (by omega) (by rw [← y]; exact hz)).elim hnl id; ⟨(o1 r hne).1, (o1 r hne).2.mpr hz⟩⟩
  have X3 := X1.tr X2
  have hl2 := J2.l (k := 15) (i := g) (by show g ≤ zup S1 15 g 0 (n + 1) 10 0 0; rw [u 10 (by omega), e10]; exact Nat.le_refl _)
  have hb2 := J2.r.2.1
  rw [u 10 (by omega), e10] at hb2
  rw [← (X3.1 (0, 0, 0) (Or.inl rfl)).1]
  rw [eD] at q2
  have q3 := q2 q _ _ _ X3 ⟨J2, C2⟩
  have en : zup S1 15 g 0 (n + 1) 15 g 0 = n + 1 := zup_s _ _ _ _ _
  generalize zup S1 15 g 0 (n + 1) = S2 at *
  generalize zBu B 15 g b' cap' f' m' = B2 at *
  simp only [za_lv_0, za_lv_s, za_isI_i, za_rf_r, za_rf_n, za_rf_v, za_ck_r, za_isC_eq, zs_f, zs_d, zs_iconst, zs_bipush, zs_sipush, zs_lconst, zs_null, zs_iload_n, zs_iload, zs_aload_n, zs_aload, za_iv_i, zs_iinc, zs_istore_n, zs_istore, zs_astore_n, zs_astore, zs_iadd, zs_isub, zs_imul, zs_iand, zs_ior, zs_ixor, zs_ishl, zs_ishr, zs_idiv, zs_irem, zs_lshl, zs_lshr, zs_land, zs_lor, zs_lstore, za_lg_0, za_lg_s, za_ll_s, za_lc_s, zs_lload_n, zs_lload, zs_ldc, zs_i2l, zs_lcmp, zs_dup, zs_dup_x1, zs_dup2, zs_pop, zs_goto, zs_icmp, zs_ifc, zs_nonnull, zs_acmp_eq, zs_acmp_ne, za_sw_s, zs_switch, za_iaload_s, zs_iaload, za_baload_s, zs_baload, za_laload_s, zs_laload, za_aaload_s, zs_aaload, za_iastore_s, zs_iastore, za_bastore_s, zs_bastore, za_lastore_s, zs_lastore, za_aasN_s, zs_aastoreN, za_aas_s, zs_aastore, za_alg_s, za_alg_n, zs_alen, za_gf_s, za_vl_0, za_vl_s, zs_getfield, za_pf_s, zs_putfield, za_nw_s, za_nw_t, za_tx_1, za_tx_2, zs_th, zs_new, zs_newarray, za_cx_s, zs_checkcast, za_vB_s, za_vA_s, za_sX_s, za_sN_s, za_sA_5, za_sA_6, za_sA_1, za_sA_3, za_oB_s, za_iA_2, za_iA_4, zs_invokevirtual, zs_invokestatic, zs_invokespecial, zs_ireturn, zs_return, zs_areturn, zs_areturnA, za_ex0, za_go_eq, za_fit_i, za_fit_b, za_fit_b0, za_fit_b1, za_fit_r, za_fit_n, za_fit_a, za_up_s, za_upup, za_fn_0, za_fn_1, za_fn_2, za_fn_3, za_cd_eq, za_cd_ne, za_cd_lt, za_cd_ge, za_cd_gt, za_cd_le, za_cat_i, za_cat_r, za_cat_n, zb_n0, zb_n1, zb_narrow, zn_narrow, Option.toList_some, Option.toList_none, List.set_cons_zero, List.set_cons_succ, List.length_cons, List.length_nil, List.take_succ_cons, List.take_zero, List.drop_succ_cons, List.drop_zero, List.reverse_cons, List.reverse_nil, List.nil_append, List.cons_append, List.map_cons, List.map_nil, List.replicate_succ, List.replicate_zero, true_and, and_true, true_or, or_true, false_or, or_false, eq_self, not_true_eq_false, not_false_eq_true, false_implies, true_implies, implies_true, and_self, Nat.zero_add, Nat.add_zero, Nat.le_refl, Nat.zero_le, Nat.reduceEqDiff, if_true, if_false, za_t.eq_1, za_t0.eq_1, Int.cast_ofNat_Int, Int.reduceAdd, Int.reduceToNat, Int.reduceLE, Int.reduceNeg, Nat.reduceAdd, Nat.reduceSub, Nat.reduceBEq, Nat.reduceLT, Nat.reduceLeDiff, ↓reduceIte, Bool.false_eq_true, Bool.or_false, Bool.or_true, Bool.false_or, Bool.true_or, decide_true, decide_false, ge_iff_le, gt_iff_lt, dX7_addToDraft_0, dX7_addToDraft_1, dX7_addToDraft_4, dX7_addToDraft_7, dX7_addToDraft_9, dX7_addToDraft_12, dX7_addToDraft_15, dX7_addToDraft_16, dX7_addToDraft_19, dX7_addToDraft_22, dX7_addToDraft_23, dX7_addToDraft_24, dX7_addToDraft_27, dX7_addToDraft_28, dX7_addToDraft_31, dX7_addToDraft_32, dX7_addToDraft_33, dX7_addToDraft_36, dX7_addToDraft_39, uX7_f28, uX7_n72, uX7_t72, uX7_m88, uX7_m99, uX7_s324, zi_b10, (zmk_at J2.x), zc_0, hb2, (zmk_at hl2.1), zc_15]
  refine za_call (mc' := 0) (ms' := 0) (by omega) (by omega) (l_size F (by omega) hl2 _ ?_)
  simp only [za_lv_0, za_lv_s, za_isI_i, za_rf_r, za_rf_n, za_rf_v, za_ck_r, za_isC_eq, zs_f, zs_d, zs_iconst, zs_bipush, zs_sipush, zs_lconst, zs_null, zs_iload_n, zs_iload, zs_aload_n, zs_aload, za_iv_i, zs_iinc, zs_istore_n, zs_istore, zs_astore_n, zs_astore, zs_iadd, zs_isub, zs_imul, zs_iand, zs_ior, zs_ixor, zs_ishl, zs_ishr, zs_idiv, zs_irem, zs_lshl, zs_lshr, zs_land, zs_lor, zs_lstore, za_lg_0, za_lg_s, za_ll_s, za_lc_s, zs_lload_n, zs_lload, zs_ldc, zs_i2l, zs_lcmp, zs_dup, zs_dup_x1, zs_dup2, zs_pop, zs_goto, zs_icmp, zs_ifc, zs_nonnull, zs_acmp_eq, zs_acmp_ne, za_sw_s, zs_switch, za_iaload_s, zs_iaload, za_baload_s, zs_baload, za_laload_s, zs_laload, za_aaload_s, zs_aaload, za_iastore_s, zs_iastore, za_bastore_s, zs_bastore, za_lastore_s, zs_lastore, za_aasN_s, zs_aastoreN, za_aas_s, zs_aastore, za_alg_s, za_alg_n, zs_alen, za_gf_s, za_vl_0, za_vl_s, zs_getfield, za_pf_s, zs_putfield, za_nw_s, za_nw_t, za_tx_1, za_tx_2, zs_th, zs_new, zs_newarray, za_cx_s, zs_checkcast, za_vB_s, za_vA_s, za_sX_s, za_sN_s, za_sA_5, za_sA_6, za_sA_1, za_sA_3, za_oB_s, za_iA_2, za_iA_4, zs_invokevirtual, zs_invokestatic, zs_invokespecial, zs_ireturn, zs_return, zs_areturn, zs_areturnA, za_ex0, za_go_eq, za_fit_i, za_fit_b, za_fit_b0, za_fit_b1, za_fit_r, za_fit_n, za_fit_a, za_up_s, za_upup, za_fn_0, za_fn_1, za_fn_2, za_fn_3, za_cd_eq, za_cd_ne, za_cd_lt, za_cd_ge, za_cd_gt, za_cd_le, za_cat_i, za_cat_r, za_cat_n, zb_n0, zb_n1, zb_narrow, zn_narrow, Option.toList_some, Option.toList_none, List.set_cons_zero, List.set_cons_succ, List.length_cons, List.length_nil, List.take_succ_cons, List.take_zero, List.drop_succ_cons, List.drop_zero, List.reverse_cons, List.reverse_nil, List.nil_append, List.cons_append, List.map_cons, List.map_nil, List.replicate_succ, List.replicate_zero, true_and, and_true, true_or, or_true, false_or, or_false, eq_self, not_true_eq_false, not_false_eq_true, false_implies, true_implies, implies_true, and_self, Nat.zero_add, Nat.add_zero, Nat.le_refl, Nat.zero_le, Nat.reduceEqDiff, if_true, if_false, za_t.eq_1, za_t0.eq_1, Int.cast_ofNat_Int, Int.reduceAdd, Int.reduceToNat, Int.reduceLE, Int.reduceNeg, Nat.reduceAdd, Nat.reduceSub, Nat.reduceBEq, Nat.reduceLT, Nat.reduceLeDiff, ↓reduceIte, Bool.false_eq_true, Bool.or_false, Bool.or_true, Bool.false_or, Bool.true_or, decide_true, decide_false, ge_iff_le, gt_iff_lt, dX7_addToDraft_0, dX7_addToDraft_1, dX7_addToDraft_4, dX7_addToDraft_7, dX7_addToDraft_9, dX7_addToDraft_12, dX7_addToDraft_15, dX7_addToDraft_16, dX7_addToDraft_19, dX7_addToDraft_22, dX7_addToDraft_23, dX7_addToDraft_24, dX7_addToDraft_27, dX7_addToDraft_28, dX7_addToDraft_31, dX7_addToDraft_32, dX7_addToDraft_33, dX7_addToDraft_36, dX7_addToDraft_39, uX7_f28, uX7_n72, uX7_t72, uX7_m88, uX7_m99, uX7_s324, zi_b10, (zmk_at J2.x), zc_0, hb2, (zmk_at hl2.1), zc_15]
  rw [en]
  exact ⟨hcost, q3⟩
end ZCD
