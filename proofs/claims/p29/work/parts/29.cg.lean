/-! THE CLASS (7): changes -/
theorem zcon_z20 {B : zB} {S : zS} {T : zT} {f i j v : Nat} (h : 19 ≤ f ∧ f ≤ 29) (r : zQ) : zcon B (zup S f i j v) T r = zcon B S T r := by
  obtain ⟨k, i', j'⟩ := r
  by_cases hk : k = zkd f
  · have e : k = 99 := by unfold zkd at hk; rw [if_neg (by omega), if_neg (by omega), if_pos (by omega)] at hk; exact hk
    subst e
    rfl
  · exact zcon_zup (fun z => hk (by cases z; rfl))
def znote (S : zS) (i : Nat) : zS := if S 36 i 0 ≤ S 0 0 0 then zup (zup S 20 (S 11 0 0) 0 i) 11 0 0 (S 11 0 0 + 1) else S
/-- changes.add -/
def zchg (S : zS) (i : Nat) : zS := zup (zup S 20 (S 11 0 0) 0 i) 11 0 0 (S 11 0 0 + 1)
section ZCG
variable {G : za_G} {A : zA} {B : zB} {S : zS} {T : zT} {r0 : za_H}
theorem zcap_c (n : Nat) : zcap n + 4 * n ≤ 4 * zcap n := by unfold zcap; split <;> omega
def zcapn (n cap : Nat) : Nat := if n = cap then zcap n else cap
theorem p_chg (F : za_F G) (I : zI G A B S r0) {i : Nat} (hi : i < S 10 0 0) (hn : S 11 0 0 ≤ 1000) (K : za_O → za_H → Prop)
    (q : ∀ A' B' r0', zX A B A' B' → zI G A' B' (zchg S i) r0' → zcost B S 11 0 + 4 * B.1 8 11 0 ≤ 4 * B'.1 8 11 0 ∧ B'.1 8 11 0 = zcapn (S 11 0 0) (B.1 8 11 0) → K (.inl (some (.int (nI 1)))) (zmk A' B' (zchg S i) T r0')) : za_P G mJx4a65c_add_9ea2d [.ref (A.1 (11, 0, 0)), .ref (A.1 (2, i, 0))] (zmk A B S T r0) 1 (zcost B S 11 0) K := by
  obtain ⟨J, C⟩ := I
  have hl := J.l (k := 11) (i := 0) rfl
  have hv := J.v (k := 2) (i := i) (j := 0) ⟨hi, rfl⟩
  have u : ∀ f, f ≠ 20 → f ≠ 11 → zchg S i f = S f := fun f a b => (zup_o _ b).trans (zup_o S a)
  have e11 : zchg S i 11 0 0 = S 11 0 0 + 1 := zup_s _ _ _ _ _
  have e11' : ∀ x, x ≠ 0 → zchg S i 11 x 0 = S 11 x 0 := fun x h => (zup_n _ (fun z => h z.2.1)).trans (zup_n S (fun z => by omega))
  have e20 : zchg S i 20 (S 11 0 0) 0 = i := (zup_n _ (fun z => by omega)).trans (zup_s _ _ _ _ _)
  have e20' : ∀ j, j < S 11 0 0 → zchg S i 20 j 0 = S 20 j 0 := fun j h => (zup_n _ (fun z => by omega)).trans (zup_n S (fun z => by omega))
  refine l_add (r := (2, i, 0)) (S' := zchg S i) F J.f J.n (by omega) hl hv (zc_2 B S T i 0) e11 (by show ((2, zchg S i 20 (S 11 0 0) 0, 0) : zQ) = _; rw [e20]) (fun j hj => by show ((2, zchg S i 20 j 0, 0) : zQ) = (2, S 20 j 0, 0); rw [e20' j hj]) (fun r' h0 h1 => by unfold zchg; rw [zcon_zup (by exact h0), zcon_z20 (by omega)]) hn K ?_
  intro A' B' r0' hf' hN' hL' hA' hB'
  obtain ⟨b', cap', f', m', rfl, hcap'⟩ := hB'
  have lv : ∀ x y z, zLv (zchg S i) x y z = zLv S x y z := by
    intro x y z
    unfold zLv
    rw [u 10 (by omega) (by omega), u 12 (by omega) (by omega), u 13 (by omega) (by omega), u 15 (by omega) (by omega), u 17 (by omega) (by omega), u 18 (by omega) (by omega), u 19 (by omega) (by omega)]
  have lb : ∀ k i', zLb (zchg S i) k i' = zLb S k i' := by
    intro k i'
    unfold zLb
    rw [u 10 (by omega) (by omega), u 12 (by omega) (by omega), u 19 (by omega) (by omega)]
  obtain ⟨J2, X2⟩ := zJ_add (S' := zchg S i) J (k := 11) (i := 0) (by omega) hf' hN' hL' hA' (fun k' i' p z => by
    rw [lb] at p
    have hk' := zLb_k p
    by_cases hk : k' = 11
    · subst hk
      exact absurd ⟨rfl, p⟩ z
    · refine ⟨p, by rw [u k' (by omega) hk], fun j hj => ?_⟩
      unfold zel
      split
      · rfl
      · exact absurd rfl hk
      all_goals first | rfl | rw [u 21 (by omega) (by omega)]) (fun x y z x1 x7 p => by rw [lv] at p; exact J.v p x1 x7) (by
    obtain ⟨t1, t2, t3, t4, t5⟩ := J.r
    unfold zRf
    rw [u 10 (by omega) (by omega), u 12 (by omega) (by omega), u 17 (by omega) (by omega), u 19 (by omega) (by omega), u 49 (by omega) (by omega), u 55 (by omega) (by omega)]
    exact ⟨t1, t2, t3, t4, fun d hd => ⟨(t5 d hd).1, (t5 d hd).2.1, fun k hk => ⟨((t5 d hd).2.2 k hk).1, by rw [lv]; exact ((t5 d hd).2.2 k hk).2⟩⟩⟩) (by rw [u 14 (by omega) (by omega), u 19 (by omega) (by omega)]; exact J.p)
  refine q _ _ _ X2 ⟨J2, zC_add C (by omega) hA' (fun x y z p => by rw [lv]; exact p.elim id (fun p => p.elim))⟩ ?_
  rw [zBu_s.2.1]
  unfold zcost zcapn
  rcases hcap' with ⟨h1, rfl⟩ | ⟨h1, rfl⟩
  · rw [if_neg (by omega), if_neg (by omega)]; exact ⟨by omega, rfl⟩
  · rw [if_pos h1, if_pos h1, h1]; exact ⟨zcap_c _, rfl⟩
/-- what a change's note costs -/
def zncost (B : zB) (S : zS) (i : Nat) : Nat := if S 36 i 0 ≤ S 0 0 0 then zcost B S 11 0 else 0
theorem zncost_le (B : zB) (S : zS) (i : Nat) : zncost B S i ≤ zcost B S 11 0 := by
  unfold zncost
  split
  · exact Nat.le_refl _
  · exact Nat.zero_le _
theorem m_noteChange (F : za_F G) (I : zI G A B S r0) (hb : zH S) {i : Nat} (hi : i < S 10 0 0) (hn : S 11 0 0 ≤ 1000) (K : za_O → za_H → Prop)
    (q : ∀ A' B' r0', zX A B A' B' → zI G A' B' (znote S i) r0' → zncost B S i + 4 * B.1 8 11 0 ≤ 4 * B'.1 8 11 0 → K (.inl none) (zmk A' B' (znote S i) T r0')) : za_P G mX7_noteChange [.ref (A.1 (0, 0, 0)), .ref (A.1 (2, i, 0))] (zmk A B S T r0) 1 (zncost B S i) K := by
  have J := I.1
  have hr := J.r.1 11 (by omega) (by omega)
  have hl := J.l (k := 11) (i := 0) rfl
  refine za_m (y := yX7_noteChange) (cc := cX7_noteChange) (nL := 2) (ret := none) (hh := []) (fr := 7) (lk := lkX7) (hx := []) (ini := false) (cuts := fun p => false) F okX7 trivial (by decide +kernel) (by decide +kernel) (Nat.le_of_ble_eq_true rfl) (by simp [Value.category]) (fun w hw => ?_)
  refine hw 60 _ _ _ _ _ _ ?_
  simp only [za_lv_0, za_lv_s, za_isI_i, za_rf_r, za_rf_n, za_rf_v, za_ck_r, za_isC_eq, zs_f, zs_d, zs_iconst, zs_bipush, zs_sipush, zs_lconst, zs_null, zs_iload_n, zs_iload, zs_aload_n, zs_aload, za_iv_i, zs_iinc, zs_istore_n, zs_istore, zs_astore_n, zs_astore, zs_iadd, zs_isub, zs_imul, zs_iand, zs_ior, zs_ixor, zs_ishl, zs_ishr, zs_idiv, zs_irem, zs_lshl, zs_lshr, zs_land, zs_lor, zs_lstore, za_lg_0, za_lg_s, za_ll_s, za_lc_s, zs_lload_n, zs_lload, zs_ldc, zs_i2l, zs_lcmp, zs_dup, zs_dup_x1, zs_dup2, zs_pop, zs_goto, zs_icmp, zs_ifc, zs_nonnull, zs_acmp_eq, zs_acmp_ne, za_sw_s, zs_switch, za_iaload_s, zs_iaload, za_baload_s, zs_baload, za_laload_s, zs_laload, za_aaload_s, zs_aaload, za_iastore_s, zs_iastore, za_bastore_s, zs_bastore, za_lastore_s, zs_lastore, za_aasN_s, zs_aastoreN, za_aas_s, zs_aastore, za_alg_s, za_alg_n, zs_alen, za_gf_s, za_vl_0, za_vl_s, zs_getfield, za_pf_s, zs_putfield, za_nw_s, za_nw_t, za_tx_1, za_tx_2, zs_th, zs_new, zs_newarray, za_cx_s, zs_checkcast, za_vB_s, za_vA_s, za_sX_s, za_sN_s, za_sA_5, za_sA_6, za_sA_1, za_sA_3, za_oB_s, za_iA_2, za_iA_4, zs_invokevirtual, zs_invokestatic, zs_invokespecial, zs_ireturn, zs_return, zs_areturn, zs_areturnA, za_ex0, za_go_eq, za_fit_i, za_fit_b, za_fit_b0, za_fit_b1, za_fit_r, za_fit_n, za_fit_a, za_up_s, za_upup, za_fn_0, za_fn_1, za_fn_2, za_fn_3, za_cd_eq, za_cd_ne, za_cd_lt, za_cd_ge, za_cd_gt, za_cd_le, za_cat_i, za_cat_r, za_cat_n, zb_n0, zb_n1, zb_narrow, zn_narrow, Option.toList_some, Option.toList_none, List.set_cons_zero, List.set_cons_succ, List.length_cons, List.length_nil, List.take_succ_cons, List.take_zero, List.drop_succ_cons, List.drop_zero, List.reverse_cons, List.reverse_nil, List.nil_append, List.cons_append, List.map_cons, List.map_nil, List.replicate_succ, List.replicate_zero, true_and, and_true, true_or, or_true, false_or, or_false, eq_self, not_true_eq_false, not_false_eq_true, false_implies, true_implies, implies_true, and_self, Nat.zero_add, Nat.add_zero, Nat.le_refl, Nat.zero_le, Nat.reduceEqDiff, if_true, if_false, za_t.eq_1, za_t0.eq_1, Int.cast_ofNat_Int, Int.reduceAdd, Int.reduceToNat, Int.reduceLE, Int.reduceNeg, Nat.reduceAdd, Nat.reduceSub, Nat.reduceBEq, Nat.reduceLT, Nat.reduceLeDiff, ↓reduceIte, Bool.false_eq_true, Bool.or_false, Bool.or_true, Bool.false_or, Bool.true_or, decide_true, decide_false, ge_iff_le, gt_iff_lt, dX7_noteChange_0, dX7_noteChange_1, dX7_noteChange_2, dX7_noteChange_5, dX7_noteChange_8, dX7_noteChange_9, dX7_noteChange_12, dX7_noteChange_13, dX7_noteChange_16, dX7_noteChange_17, uX7_f16, uX7_m99, uX7_m196, (zmk_at J.x), zc_0]
  refine za_call (mc' := 0) (ms' := 0) (by omega) (by omega) (m_isReleased F J hb hi _ ?_)
  simp only [za_lv_0, za_lv_s, za_isI_i, za_rf_r, za_rf_n, za_rf_v, za_ck_r, za_isC_eq, zs_f, zs_d, zs_iconst, zs_bipush, zs_sipush, zs_lconst, zs_null, zs_iload_n, zs_iload, zs_aload_n, zs_aload, za_iv_i, zs_iinc, zs_istore_n, zs_istore, zs_astore_n, zs_astore, zs_iadd, zs_isub, zs_imul, zs_iand, zs_ior, zs_ixor, zs_ishl, zs_ishr, zs_idiv, zs_irem, zs_lshl, zs_lshr, zs_land, zs_lor, zs_lstore, za_lg_0, za_lg_s, za_ll_s, za_lc_s, zs_lload_n, zs_lload, zs_ldc, zs_i2l, zs_lcmp, zs_dup, zs_dup_x1, zs_dup2, zs_pop, zs_goto, zs_icmp, zs_ifc, zs_nonnull, zs_acmp_eq, zs_acmp_ne, za_sw_s, zs_switch, za_iaload_s, zs_iaload, za_baload_s, zs_baload, za_laload_s, zs_laload, za_aaload_s, zs_aaload, za_iastore_s, zs_iastore, za_bastore_s, zs_bastore, za_lastore_s, zs_lastore, za_aasN_s, zs_aastoreN, za_aas_s, zs_aastore, za_alg_s, za_alg_n, zs_alen, za_gf_s, za_vl_0, za_vl_s, zs_getfield, za_pf_s, zs_putfield, za_nw_s, za_nw_t, za_tx_1, za_tx_2, zs_th, zs_new, zs_newarray, za_cx_s, zs_checkcast, za_vB_s, za_vA_s, za_sX_s, za_sN_s, za_sA_5, za_sA_6, za_sA_1, za_sA_3, za_oB_s, za_iA_2, za_iA_4, zs_invokevirtual, zs_invokestatic, zs_invokespecial, zs_ireturn, zs_return, zs_areturn, zs_areturnA, za_ex0, za_go_eq, za_fit_i, za_fit_b, za_fit_b0, za_fit_b1, za_fit_r, za_fit_n, za_fit_a, za_up_s, za_upup, za_fn_0, za_fn_1, za_fn_2, za_fn_3, za_cd_eq, za_cd_ne, za_cd_lt, za_cd_ge, za_cd_gt, za_cd_le, za_cat_i, za_cat_r, za_cat_n, zb_n0, zb_n1, zb_narrow, zn_narrow, Option.toList_some, Option.toList_none, List.set_cons_zero, List.set_cons_succ, List.length_cons, List.length_nil, List.take_succ_cons, List.take_zero, List.drop_succ_cons, List.drop_zero, List.reverse_cons, List.reverse_nil, List.nil_append, List.cons_append, List.map_cons, List.map_nil, List.replicate_succ, List.replicate_zero, true_and, and_true, true_or, or_true, false_or, or_false, eq_self, not_true_eq_false, not_false_eq_true, false_implies, true_implies, implies_true, and_self, Nat.zero_add, Nat.add_zero, Nat.le_refl, Nat.zero_le, Nat.reduceEqDiff, if_true, if_false, za_t.eq_1, za_t0.eq_1, Int.cast_ofNat_Int, Int.reduceAdd, Int.reduceToNat, Int.reduceLE, Int.reduceNeg, Nat.reduceAdd, Nat.reduceSub, Nat.reduceBEq, Nat.reduceLT, Nat.reduceLeDiff, ↓reduceIte, Bool.false_eq_true, Bool.or_false, Bool.or_true, Bool.false_or, Bool.true_or, decide_true, decide_false, ge_iff_le, gt_iff_lt, dX7_noteChange_0, dX7_noteChange_1, dX7_noteChange_2, dX7_noteChange_5, dX7_noteChange_8, dX7_noteChange_9, dX7_noteChange_12, dX7_noteChange_13, dX7_noteChange_16, dX7_noteChange_17, uX7_f16, uX7_m99, uX7_m196, (zmk_at J.x), zc_0, hr, (zmk_at hl.1), zc_11, zb_eq0]
  refine ⟨fun z => ?_, fun z => ?_⟩
  · have e : znote S i = S := if_neg (of_decide_eq_false z)
    have e2 : zncost B S i = 0 := if_neg (of_decide_eq_false z)
    rw [e, e2] at q
    exact q A B r0 (zX.rf A B) I (by omega)
  · rw [Bool.not_eq_false] at z
    have e : znote S i = zchg S i := if_pos (of_decide_eq_true z)
    have e2 : zncost B S i = zcost B S 11 0 := if_pos (of_decide_eq_true z)
    rw [e, e2] at q
    rw [e2]
    refine za_call (mc' := 1) (ms' := zcost B S 11 0) (by omega) (by omega) (p_chg F I hi hn _ fun A' B' r0' X' I' hc => ?_)
    simp only [za_lv_0, za_lv_s, za_isI_i, za_rf_r, za_rf_n, za_rf_v, za_ck_r, za_isC_eq, zs_f, zs_d, zs_iconst, zs_bipush, zs_sipush, zs_lconst, zs_null, zs_iload_n, zs_iload, zs_aload_n, zs_aload, za_iv_i, zs_iinc, zs_istore_n, zs_istore, zs_astore_n, zs_astore, zs_iadd, zs_isub, zs_imul, zs_iand, zs_ior, zs_ixor, zs_ishl, zs_ishr, zs_idiv, zs_irem, zs_lshl, zs_lshr, zs_land, zs_lor, zs_lstore, za_lg_0, za_lg_s, za_ll_s, za_lc_s, zs_lload_n, zs_lload, zs_ldc, zs_i2l, zs_lcmp, zs_dup, zs_dup_x1, zs_dup2, zs_pop, zs_goto, zs_icmp, zs_ifc, zs_nonnull, zs_acmp_eq, zs_acmp_ne, za_sw_s, zs_switch, za_iaload_s, zs_iaload, za_baload_s, zs_baload, za_laload_s, zs_laload, za_aaload_s, zs_aaload, za_iastore_s, zs_iastore, za_bastore_s, zs_bastore, za_lastore_s, zs_lastore, za_aasN_s, zs_aastoreN, za_aas_s, zs_aastore, za_alg_s, za_alg_n, zs_alen, za_gf_s, za_vl_0, za_vl_s, zs_getfield, za_pf_s, zs_putfield, za_nw_s, za_nw_t, za_tx_1, za_tx_2, zs_th, zs_new, zs_newarray, za_cx_s, zs_checkcast, za_vB_s, za_vA_s, za_sX_s, za_sN_s, za_sA_5, za_sA_6, za_sA_1, za_sA_3, za_oB_s, za_iA_2, za_iA_4, zs_invokevirtual, zs_invokestatic, zs_invokespecial, zs_ireturn, zs_return, zs_areturn, zs_areturnA, za_ex0, za_go_eq, za_fit_i, za_fit_b, za_fit_b0, za_fit_b1, za_fit_r, za_fit_n, za_fit_a, za_up_s, za_upup, za_fn_0, za_fn_1, za_fn_2, za_fn_3, za_cd_eq, za_cd_ne, za_cd_lt, za_cd_ge, za_cd_gt, za_cd_le, za_cat_i, za_cat_r, za_cat_n, zb_n0, zb_n1, zb_narrow, zn_narrow, Option.toList_some, Option.toList_none, List.set_cons_zero, List.set_cons_succ, List.length_cons, List.length_nil, List.take_succ_cons, List.take_zero, List.drop_succ_cons, List.drop_zero, List.reverse_cons, List.reverse_nil, List.nil_append, List.cons_append, List.map_cons, List.map_nil, List.replicate_succ, List.replicate_zero, true_and, and_true, true_or, or_true, false_or, or_false, eq_self, not_true_eq_false, not_false_eq_true, false_implies, true_implies, implies_true, and_self, Nat.zero_add, Nat.add_zero, Nat.le_refl, Nat.zero_le, Nat.reduceEqDiff, if_true, if_false, za_t.eq_1, za_t0.eq_1, Int.cast_ofNat_Int, Int.reduceAdd, Int.reduceToNat, Int.reduceLE, Int.reduceNeg, Nat.reduceAdd, Nat.reduceSub, Nat.reduceBEq, Nat.reduceLT, Nat.reduceLeDiff, ↓reduceIte, Bool.false_eq_true, Bool.or_false, Bool.or_true, Bool.false_or, Bool.true_or, decide_true, decide_false, ge_iff_le, gt_iff_lt, dX7_noteChange_0, dX7_noteChange_1, dX7_noteChange_2, dX7_noteChange_5, dX7_noteChange_8, dX7_noteChange_9, dX7_noteChange_12, dX7_noteChange_13, dX7_noteChange_16, dX7_noteChange_17, uX7_f16, uX7_m99, uX7_m196]
    exact q A' B' r0' X' I' hc.1
end ZCG
