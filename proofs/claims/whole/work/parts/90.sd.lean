/-! THE CALLS (26): the model's item -/
section ZSD
variable {G : za_G} {A : zA} {B : zB} {S Sx : zS} {T T0 TC : zT} {r0 : za_H}
theorem zV_item (V : zinv S) {x y : Nat} (h24 : S 10 0 0 < 24) (hx : x < 1000) (hy : y ≤ 9999) (hu : zuse S (S 15 (S 10 0 0) 0) 0 = true) : zinv (zcut (zitem S x y) (S 10 0 0)) := by
  have HH : zH (zcut (zitem S x y) (S 10 0 0)) := by
    refine zcut_H ?_ _
    unfold zitem
    refine zH_zup (zH_zup (zH_zup (zH_zup (zH_zup V.1 ?_) ?_) ?_) ?_) ?_ <;> omega
  obtain ⟨hfo, e10, e15, e15', ⟨e35, e36, e37⟩, en, e33, e33'⟩ := zitem_e V x y hu
  obtain ⟨g1, g2, g3, g4, g5⟩ := zv_2 V
  generalize zcut (zitem S x y) (S 10 0 0) = S' at *
  have k14 := zv_14 V
  have b33 : ∀ i b, i ≤ S 10 0 0 → b < S 15 i 0 → S' 33 i b ≤ 1 := fun i b hi hb => by
    by_cases z : i = S 10 0 0
    · subst z; rw [e33 b hb]; split <;> omega
    · rw [e33' i b z]; exact (zv_4 V i b hi hb).2.2.2.1
  have hout : ∀ i j, zout S' i j = zout S i j := fun i j => zout_S (hfo 30 (by decide)) (hfo 1 (by decide)) (hfo 32 (by decide)) i j
  refine ⟨HH, zv_go V.2 [35, 36, 37, 15, 10, 33] [2, 3, 4, 6, 7, 8, 9, 10, 11, 14, 15, 24, 25] hfo (by decide) ?_⟩
  intro k hk
  simp only [List.mem_cons, List.not_mem_nil, or_false] at hk
  rcases hk with rfl | rfl | rfl | rfl | rfl | rfl | rfl | rfl | rfl | rfl | rfl | rfl | rfl
  · show S' 10 0 0 ≤ 24 ∧ S' 12 0 0 ≤ 6 ∧ S' 13 0 0 ≤ 8 ∧ S' 14 0 0 ≤ 60 ∧ S' 19 0 0 = S' 14 0 0
    rw [e10, hfo 12 (by decide), hfo 13 (by decide), hfo 14 (by decide), hfo 19 (by decide)]
    exact ⟨by omega, g2, g3, g4, g5⟩
  · show ∀ i, i ≤ S' 10 0 0 → S' 15 i 0 ≤ 10
    rw [e10]
    intro i hi
    by_cases z : i = S 10 0 0 + 1
    · subst z; rw [e15]; omega
    · rw [e15' i (by omega)]; exact zv_3 V i (by omega)
  · show ∀ i j, i ≤ S' 10 0 0 → j < S' 15 i 0 → S' 30 i j ≤ 2 ∧ (S' 30 i j = 1 → 1 ≤ S' 32 i j ∧ S' 32 i j ≤ 10) ∧ (S' 30 i j = 2 → 1 ≤ S' 32 i j) ∧ S' 33 i j ≤ 1 ∧ S' 34 i j < 1024
    rw [e10, hfo 30 (by decide), hfo 32 (by decide), hfo 34 (by decide)]
    intro i j hi hj
    by_cases z : i = S 10 0 0 + 1
    · subst z; rw [e15] at hj; omega
    · rw [e15' i (by omega)] at hj
      obtain ⟨p1, p2, p3, p4, p5⟩ := zv_4 V i j (by omega) hj
      exact ⟨p1, p2, p3, b33 i j (by omega) hj, p5⟩
  · show ∀ i, i < S' 10 0 0 → S' 36 i 0 ≤ 9999 ∧ S' 37 i 0 ≤ 1
    rw [e10]
    intro i hi
    by_cases z : i = S 10 0 0
    · subst z; rw [e36, e37]; exact ⟨hy, by omega⟩
    · rw [en 36 i (by omega) z, en 37 i (by omega) z]; exact zv_6 V i (by omega)
  · show ∀ i j, i < S' 10 0 0 → j < S' 15 i 0 → S' 33 i j = 0 → zout S' i j = false
    rw [e10]
    intro i j hi hj h
    rw [hout]
    rw [e15' i (by omega)] at hj
    by_cases z : i = S 10 0 0
    · subst z
      rw [e33 j hj] at h
      cases hz : zout S (S 10 0 0) j with
      | false => rfl
      | true => rw [hz, if_pos rfl] at h; cases h
    · rw [e33' i j z] at h; exact zv_7 V i j (by omega) hj h
  · show ∀ i, i < S' 10 0 0 → zunc S' i (S' 15 i 0) = 0 → S' 37 i 0 = 1
    rw [e10]
    intro i hi h
    rw [e15' i (by omega)] at h
    by_cases z : i = S 10 0 0
    · subst z
      obtain ⟨m, h1, h2, h3⟩ := (zuse_t S _ 0).mp hu
      exact absurd h (zunc_pos _ ⟨m, by omega, by rw [e33 m (by omega), h3]; rfl⟩)
    · rw [zunc_i (fun b => e33' i b z)] at h
      rw [en 37 i (by omega) z]; exact zv_8 V i (by omega) h
  · show ∀ j, j < S' 15 (S' 10 0 0) 0 → S' 33 (S' 10 0 0) j = 0 ∧ S' 34 (S' 10 0 0) j = 0
    rw [e10, e15]; intro j hj; omega
  · show ∀ j, j < S' 11 0 0 → S' 20 j 0 < S' 10 0 0
    rw [e10, hfo 11 (by decide), hfo 20 (by decide)]
    intro j hj
    have := zv_10 V j hj
    omega
  · show ∀ a, a < S' 12 0 0 → S' 39 a 0 ≤ S' 11 0 0 ∧ S' 16 a 0 ≤ 24 ∧ ∀ j, j < S' 16 a 0 → S' 21 a j < S' 10 0 0
    rw [e10, hfo 12 (by decide), hfo 39 (by decide), hfo 11 (by decide), hfo 16 (by decide), hfo 21 (by decide)]
    intro a ha
    obtain ⟨p1, p2, p3⟩ := zv_11 V a ha
    exact ⟨p1, p2, fun j hj => by have := p3 j hj; omega⟩
  · show ∀ d, d < S' 14 0 0 → S' 48 d 0 < 10 ∧ S' 49 d 0 < S' 10 0 0 ∧ S' 50 d 0 ≤ S' 0 0 0 ∧ S' 17 d 0 ≤ 10 ∧ S' 18 d 0 ≤ S' 3 0 0 ∧ S' 53 d 0 < 256 ∧ S' 54 d 0 < 32
    rw [e10, hfo 14 (by decide), hfo 48 (by decide), hfo 49 (by decide), hfo 50 (by decide), hfo 0 (by decide), hfo 17 (by decide), hfo 18 (by decide), hfo 3 (by decide), hfo 53 (by decide), hfo 54 (by decide)]
    intro d hd
    obtain ⟨p1, p2, p3⟩ := k14 d hd
    exact ⟨p1, by omega, p3⟩
  · show ∀ d k, d < S' 14 0 0 → k < S' 17 d 0 → S' 55 d k < S' 15 (S' 49 d 0) 0 ∧ S' 58 d k ≤ S' 13 0 0 ∧ S' 56 d k = zso S' d k ∧ S' 57 d k = zso S' d (k + 1)
    rw [hfo 14 (by decide), hfo 17 (by decide), hfo 55 (by decide), hfo 49 (by decide), hfo 58 (by decide), hfo 13 (by decide), hfo 56 (by decide), hfo 57 (by decide)]
    intro d k hd hk
    have := (k14 d hd).2.1
    rw [e15' _ (by omega), zso_S (hfo 58 (by decide)) (hfo 31 (by decide)) (hfo 49 (by decide)) (hfo 55 (by decide)) (hfo 42 (by decide)), zso_S (hfo 58 (by decide)) (hfo 31 (by decide)) (hfo 49 (by decide)) (hfo 55 (by decide)) (hfo 42 (by decide))]
    exact zv_15 V d k hd hk
  · show ∀ d k, d < S' 14 0 0 → k < S' 17 d 0 → S' 58 d k ≠ 0 → S' 30 (S' 49 d 0) (S' 55 d k) = 2
    rw [hfo 14 (by decide), hfo 17 (by decide), hfo 58 (by decide), hfo 30 (by decide), hfo 49 (by decide), hfo 55 (by decide)]
    exact zv_24 V
  · show ∀ i j, i ≤ S' 10 0 0 → j < S' 15 i 0 → S' 30 i j ≠ 2 → 1 ≤ S' 31 i j
    rw [e10, hfo 30 (by decide), hfo 31 (by decide)]
    intro i j hi hj
    by_cases z : i = S 10 0 0 + 1
    · subst z; rw [e15] at hj; omega
    · rw [e15' i (by omega)] at hj
      exact zv_25 V i j (by omega) hj
set_option maxRecDepth 8192 in
theorem n_isDraftOut (F : za_F G) (M : zMo A B) (V : zinv S) {k : Nat} (hk : k < S 15 (S 10 0 0) 0) (h2 : T.1 2 k = nI (S 30 (S 10 0 0) k)) (h4 : T.1 4 k = z1 (S 32 (S 10 0 0) k)) (h5 : ∀ j, j < 10 → T.1 5 j = zb ((S 1 0 0).testBit j)) (K : za_O → za_H → Prop) (q : K (.inl (some (.int (zb (zout S (S 10 0 0) k))))) (zmk A B Sx T r0)) : za_P G mX8_isDraftOut [.ref (A.1 (30, 0, 0)), .int (nI k)] (zmk A B Sx T r0) 0 0 K := by
  have h15 := zv_3 V (S 10 0 0) (Nat.le_refl _)
  obtain ⟨p1, p2, p3, p4, p5⟩ := zv_4 V (S 10 0 0) k (Nat.le_refl _) hk
  have b30 := V.1 30 (S 10 0 0) k
  have v1 : vp_in (nI k) 10 := zn_in (by omega) (by omega)
  have c1 : (nI k).toNatClampNeg = k := zq_c (by omega)
  unfold zout at q
  by_cases z : S 30 (S 10 0 0) k = 1
  · obtain ⟨z1', z2'⟩ := p2 z
    have e : z1 (S 32 (S 10 0 0) k) = nI (S 32 (S 10 0 0) k - 1) := by rw [← z1_s]; congr 1; omega
    rw [e] at h4
    have h5 := h5 (S 32 (S 10 0 0) k - 1) (by omega)
    have v2 : vp_in (nI (S 32 (S 10 0 0) k - 1)) 10 := zn_in (by omega) (by omega)
    have c2 : (nI (S 32 (S 10 0 0) k - 1)).toNatClampNeg = S 32 (S 10 0 0) k - 1 := zq_c (by omega)
    rw [decide_eq_true z, Bool.true_and] at q
    refine za_m (y := yX8_isDraftOut) (cc := cX8_isDraftOut) (nL := 2) (ret := (some .boolean)) (hh := []) (fr := 0) (lk := lkX8) (hx := []) (ini := false) (cuts := fun p => false) F okX8 trivial (by decide +kernel) (by decide +kernel) (Nat.le_of_ble_eq_true rfl) (by simp [Value.category]) (fun w hw => ?_)
    refine hw 60 _ _ _ _ _ _ ?_
    simp only [za_lv_0, za_lv_s, za_isI_i, za_rf_r, za_rf_n, za_rf_v, za_ck_r, za_isC_eq, zs_f, zs_d, zs_iconst, zs_bipush, zs_sipush, zs_lconst, zs_null, zs_iload_n, zs_iload, zs_aload_n, zs_aload, za_iv_i, zs_iinc, zs_istore_n, zs_istore, zs_astore_n, zs_astore, zs_iadd, zs_isub, zs_imul, zs_iand, zs_ior, zs_ixor, zs_ishl, zs_ishr, zs_idiv, zs_i2l, zs_lcmp, zs_dup, zs_dup_x1, zs_dup2, zs_pop, zs_goto, zs_icmp, zs_ifc, zs_nonnull, zs_acmp_eq, zs_acmp_ne, za_sw_s, zs_switch, za_iaload_s, zs_iaload, za_baload_s, zs_baload, za_laload_s, zs_laload, za_aaload_s, zs_aaload, za_iastore_s, zs_iastore, za_bastore_s, zs_bastore, za_lastore_s, zs_lastore, za_aasN_s, zs_aastoreN, za_aas_s, zs_aastore, za_alg_s, za_alg_n, zs_alen, za_gf_s, za_vl_0, za_vl_s, zs_getfield, za_pf_s, zs_putfield, za_nw_s, za_nw_t, za_tx_1, za_tx_2, zs_th, zs_new, zs_newarray, za_cx_s, zs_checkcast, za_vB_s, za_vA_s, za_sX_s, za_sN_s, za_sA_5, za_sA_6, za_sA_1, za_sA_3, za_oB_s, za_iA_2, za_iA_4, zs_invokevirtual, zs_invokestatic, zs_invokespecial, zs_ireturn, zs_return, zs_areturn, zs_areturnA, za_ex0, za_go_eq, za_fit_i, za_fit_b, za_fit_b0, za_fit_b1, za_fit_r, za_fit_n, za_fit_a, za_up_s, za_upup, za_fn_0, za_fn_1, za_fn_2, za_fn_3, za_cd_eq, za_cd_ne, za_cd_lt, za_cd_ge, za_cd_gt, za_cd_le, za_cat_i, za_cat_r, za_cat_n, zb_n0, zb_n1, zb_narrow, zn_narrow, Option.toList_some, Option.toList_none, List.set_cons_zero, List.set_cons_succ, List.length_cons, List.length_nil, List.take_succ_cons, List.take_zero, List.drop_succ_cons, List.drop_zero, List.reverse_cons, List.reverse_nil, List.nil_append, List.cons_append, List.map_cons, List.map_nil, List.replicate_succ, List.replicate_zero, true_and, and_true, true_or, or_true, false_or, or_false, eq_self, not_true_eq_false, not_false_eq_true, false_implies, true_implies, implies_true, and_self, Nat.zero_add, Nat.add_zero, Nat.le_refl, Nat.zero_le, Nat.reduceEqDiff, if_true, if_false, za_t.eq_1, za_t0.eq_1, Int.cast_ofNat_Int, Int.reduceAdd, Int.reduceToNat, Int.reduceLE, Int.reduceNeg, Nat.reduceAdd, Nat.reduceSub, Nat.reduceBEq, Nat.reduceLT, Nat.reduceLeDiff, ↓reduceIte, Bool.false_eq_true, Bool.or_false, Bool.or_true, Bool.false_or, Bool.true_or, decide_true, decide_false, ge_iff_le, gt_iff_lt, dX8_isDraftOut_0, dX8_isDraftOut_1, dX8_isDraftOut_4, dX8_isDraftOut_5, dX8_isDraftOut_6, dX8_isDraftOut_7, dX8_isDraftOut_10, dX8_isDraftOut_11, dX8_isDraftOut_14, dX8_isDraftOut_15, dX8_isDraftOut_18, dX8_isDraftOut_19, dX8_isDraftOut_20, dX8_isDraftOut_21, dX8_isDraftOut_24, dX8_isDraftOut_25, dX8_isDraftOut_28, dX8_isDraftOut_29, uX8_f7, uX8_f16, uX8_f19, zi_i0, zi_i1, (zmo M), zM_len, ne_eq, ztu_ne, ztu_s, zfc_e, Nat.reduceMul, zM_2, (zml_2 M), (zmu_2 M), zM_4, (zml_4 M), (zmu_4 M), zM_5, (zml_5 M), (zmu_5 M), v1, c1, h2, h4, v2, c2, h5, zb_eq0]
    rw [zn_eq (by omega) (by omega)]
    refine ⟨fun y => absurd z y, fun _ => ⟨fun y => ?_, fun y => ?_⟩⟩
    · rw [y] at q; exact q
    · rw [(Bool.not_eq_false _).mp y] at q; exact q
  · rw [decide_eq_false z, Bool.false_and] at q
    have ne : ¬ nI (S 30 (S 10 0 0) k) = nI 1 := fun y => z ((zn_eq (by omega) (by omega)).mp y)
    refine za_m (y := yX8_isDraftOut) (cc := cX8_isDraftOut) (nL := 2) (ret := (some .boolean)) (hh := []) (fr := 0) (lk := lkX8) (hx := []) (ini := false) (cuts := fun p => p == 10) F okX8 trivial (by decide +kernel) (by decide +kernel) (Nat.le_of_ble_eq_true rfl) (by simp [Value.category]) (fun w hw => ?_)
    refine hw 60 _ _ _ _ _ _ ?_
    simp only [za_lv_0, za_lv_s, za_isI_i, za_rf_r, za_rf_n, za_rf_v, za_ck_r, za_isC_eq, zs_f, zs_d, zs_iconst, zs_bipush, zs_sipush, zs_lconst, zs_null, zs_iload_n, zs_iload, zs_aload_n, zs_aload, za_iv_i, zs_iinc, zs_istore_n, zs_istore, zs_astore_n, zs_astore, zs_iadd, zs_isub, zs_imul, zs_iand, zs_ior, zs_ixor, zs_ishl, zs_ishr, zs_idiv, zs_i2l, zs_lcmp, zs_dup, zs_dup_x1, zs_dup2, zs_pop, zs_goto, zs_icmp, zs_ifc, zs_nonnull, zs_acmp_eq, zs_acmp_ne, za_sw_s, zs_switch, za_iaload_s, zs_iaload, za_baload_s, zs_baload, za_laload_s, zs_laload, za_aaload_s, zs_aaload, za_iastore_s, zs_iastore, za_bastore_s, zs_bastore, za_lastore_s, zs_lastore, za_aasN_s, zs_aastoreN, za_aas_s, zs_aastore, za_alg_s, za_alg_n, zs_alen, za_gf_s, za_vl_0, za_vl_s, zs_getfield, za_pf_s, zs_putfield, za_nw_s, za_nw_t, za_tx_1, za_tx_2, zs_th, zs_new, zs_newarray, za_cx_s, zs_checkcast, za_vB_s, za_vA_s, za_sX_s, za_sN_s, za_sA_5, za_sA_6, za_sA_1, za_sA_3, za_oB_s, za_iA_2, za_iA_4, zs_invokevirtual, zs_invokestatic, zs_invokespecial, zs_ireturn, zs_return, zs_areturn, zs_areturnA, za_ex0, za_go_eq, za_fit_i, za_fit_b, za_fit_b0, za_fit_b1, za_fit_r, za_fit_n, za_fit_a, za_up_s, za_upup, za_fn_0, za_fn_1, za_fn_2, za_fn_3, za_cd_eq, za_cd_ne, za_cd_lt, za_cd_ge, za_cd_gt, za_cd_le, za_cat_i, za_cat_r, za_cat_n, zb_n0, zb_n1, zb_narrow, zn_narrow, Option.toList_some, Option.toList_none, List.set_cons_zero, List.set_cons_succ, List.length_cons, List.length_nil, List.take_succ_cons, List.take_zero, List.drop_succ_cons, List.drop_zero, List.reverse_cons, List.reverse_nil, List.nil_append, List.cons_append, List.map_cons, List.map_nil, List.replicate_succ, List.replicate_zero, true_and, and_true, true_or, or_true, false_or, or_false, eq_self, not_true_eq_false, not_false_eq_true, false_implies, true_implies, implies_true, and_self, Nat.zero_add, Nat.add_zero, Nat.le_refl, Nat.zero_le, Nat.reduceEqDiff, if_true, if_false, za_t.eq_1, za_t0.eq_1, Int.cast_ofNat_Int, Int.reduceAdd, Int.reduceToNat, Int.reduceLE, Int.reduceNeg, Nat.reduceAdd, Nat.reduceSub, Nat.reduceBEq, Nat.reduceLT, Nat.reduceLeDiff, ↓reduceIte, Bool.false_eq_true, Bool.or_false, Bool.or_true, Bool.false_or, Bool.true_or, decide_true, decide_false, ge_iff_le, gt_iff_lt, dX8_isDraftOut_0, dX8_isDraftOut_1, dX8_isDraftOut_4, dX8_isDraftOut_5, dX8_isDraftOut_6, dX8_isDraftOut_7, dX8_isDraftOut_10, dX8_isDraftOut_11, dX8_isDraftOut_14, dX8_isDraftOut_15, dX8_isDraftOut_18, dX8_isDraftOut_19, dX8_isDraftOut_20, dX8_isDraftOut_21, dX8_isDraftOut_24, dX8_isDraftOut_25, dX8_isDraftOut_28, dX8_isDraftOut_29, uX8_f7, uX8_f16, uX8_f19, zi_i0, zi_i1, (zmo M), zM_len, ne_eq, ztu_ne, ztu_s, zfc_e, Nat.reduceMul, zM_2, (zml_2 M), (zmu_2 M), zM_4, (zml_4 M), (zmu_4 M), zM_5, (zml_5 M), (zmu_5 M), v1, c1, h2]
    exact ⟨fun _ => q, fun y => absurd ne y⟩
set_option maxRecDepth 8192 in
theorem n_hasDraft (F : za_F G) (M : zMo A B) (R : zR S T) (V : zinv S) (K : za_O → za_H → Prop) (q : K (.inl (some (.int (zb (zuse S (S 15 (S 10 0 0) 0) 0))))) (zmk A B Sx T r0)) : za_P G mX8_hasDraft [.ref (A.1 (30, 0, 0))] (zmk A B Sx T r0) 0 0 K := by
  have h1 := zr_1 R
  have h15 := zv_3 V (S 10 0 0) (Nat.le_refl _)
  rw [← zusb_e] at q
  refine za_m (y := yX8_hasDraft) (cc := cX8_hasDraft) (nL := 3) (ret := (some .boolean)) (hh := []) (fr := 1) (lk := lkX8) (hx := []) (ini := false) (cuts := fun p => p == 4) F okX8 trivial (by decide +kernel) (by decide +kernel) (Nat.le_of_ble_eq_true rfl) (by simp [Value.category]) (fun w hw => ?_)
  have loop : ∀ m k, k + m = S 15 (S 10 0 0) 0 → w 4 [some (.ref (A.1 (30, 0, 0))), some (.int (zb (zusb S k))), some (.int (nI k))] [] (zmk A B Sx T r0) 0 0 := by
    intro m
    induction m with
    | zero =>
      intro k hk
      refine hw 60 _ _ _ _ _ _ ?_
      simp only [za_lv_0, za_lv_s, za_isI_i, za_rf_r, za_rf_n, za_rf_v, za_ck_r, za_isC_eq, zs_f, zs_d, zs_iconst, zs_bipush, zs_sipush, zs_lconst, zs_null, zs_iload_n, zs_iload, zs_aload_n, zs_aload, za_iv_i, zs_iinc, zs_istore_n, zs_istore, zs_astore_n, zs_astore, zs_iadd, zs_isub, zs_imul, zs_iand, zs_ior, zs_ixor, zs_ishl, zs_ishr, zs_idiv, zs_i2l, zs_lcmp, zs_dup, zs_dup_x1, zs_dup2, zs_pop, zs_goto, zs_icmp, zs_ifc, zs_nonnull, zs_acmp_eq, zs_acmp_ne, za_sw_s, zs_switch, za_iaload_s, zs_iaload, za_baload_s, zs_baload, za_laload_s, zs_laload, za_aaload_s, zs_aaload, za_iastore_s, zs_iastore, za_bastore_s, zs_bastore, za_lastore_s, zs_lastore, za_aasN_s, zs_aastoreN, za_aas_s, zs_aastore, za_alg_s, za_alg_n, zs_alen, za_gf_s, za_vl_0, za_vl_s, zs_getfield, za_pf_s, zs_putfield, za_nw_s, za_nw_t, za_tx_1, za_tx_2, zs_th, zs_new, zs_newarray, za_cx_s, zs_checkcast, za_vB_s, za_vA_s, za_sX_s, za_sN_s, za_sA_5, za_sA_6, za_sA_1, za_sA_3, za_oB_s, za_iA_2, za_iA_4, zs_invokevirtual, zs_invokestatic, zs_invokespecial, zs_ireturn, zs_return, zs_areturn, zs_areturnA, za_ex0, za_go_eq, za_fit_i, za_fit_b, za_fit_b0, za_fit_b1, za_fit_r, za_fit_n, za_fit_a, za_up_s, za_upup, za_fn_0, za_fn_1, za_fn_2, za_fn_3, za_cd_eq, za_cd_ne, za_cd_lt, za_cd_ge, za_cd_gt, za_cd_le, za_cat_i, za_cat_r, za_cat_n, zb_n0, zb_n1, zb_narrow, zn_narrow, Option.toList_some, Option.toList_none, List.set_cons_zero, List.set_cons_succ, List.length_cons, List.length_nil, List.take_succ_cons, List.take_zero, List.drop_succ_cons, List.drop_zero, List.reverse_cons, List.reverse_nil, List.nil_append, List.cons_append, List.map_cons, List.map_nil, List.replicate_succ, List.replicate_zero, true_and, and_true, true_or, or_true, false_or, or_false, eq_self, not_true_eq_false, not_false_eq_true, false_implies, true_implies, implies_true, and_self, Nat.zero_add, Nat.add_zero, Nat.le_refl, Nat.zero_le, Nat.reduceEqDiff, if_true, if_false, za_t.eq_1, za_t0.eq_1, Int.cast_ofNat_Int, Int.reduceAdd, Int.reduceToNat, Int.reduceLE, Int.reduceNeg, Nat.reduceAdd, Nat.reduceSub, Nat.reduceBEq, Nat.reduceLT, Nat.reduceLeDiff, ↓reduceIte, Bool.false_eq_true, Bool.or_false, Bool.or_true, Bool.false_or, Bool.true_or, decide_true, decide_false, ge_iff_le, gt_iff_lt, dX8_hasDraft_0, dX8_hasDraft_1, dX8_hasDraft_2, dX8_hasDraft_3, dX8_hasDraft_4, dX8_hasDraft_5, dX8_hasDraft_6, dX8_hasDraft_9, dX8_hasDraft_12, dX8_hasDraft_13, dX8_hasDraft_16, dX8_hasDraft_17, dX8_hasDraft_18, dX8_hasDraft_21, dX8_hasDraft_24, dX8_hasDraft_25, dX8_hasDraft_28, dX8_hasDraft_29, dX8_hasDraft_30, dX8_hasDraft_33, dX8_hasDraft_36, dX8_hasDraft_37, uX8_f149, uX8_m160, zi_i0, zi_i1, (zmo M), zM_len, ne_eq, ztu_ne, ztu_s, zfc_e, Nat.reduceMul, zM_1, (zmt_1 M), h1]
      rw [show k = S 15 (S 10 0 0) 0 by omega]
      exact ⟨fun _ => q, fun z => absurd (nI_le (Nat.le_refl _) (by omega)) z⟩
    | succ m ih =>
      intro k hk
      have ih' := ih (k + 1) (by omega)
      unfold zusb at ih'
      refine hw 60 _ _ _ _ _ _ ?_
      simp only [za_lv_0, za_lv_s, za_isI_i, za_rf_r, za_rf_n, za_rf_v, za_ck_r, za_isC_eq, zs_f, zs_d, zs_iconst, zs_bipush, zs_sipush, zs_lconst, zs_null, zs_iload_n, zs_iload, zs_aload_n, zs_aload, za_iv_i, zs_iinc, zs_istore_n, zs_istore, zs_astore_n, zs_astore, zs_iadd, zs_isub, zs_imul, zs_iand, zs_ior, zs_ixor, zs_ishl, zs_ishr, zs_idiv, zs_i2l, zs_lcmp, zs_dup, zs_dup_x1, zs_dup2, zs_pop, zs_goto, zs_icmp, zs_ifc, zs_nonnull, zs_acmp_eq, zs_acmp_ne, za_sw_s, zs_switch, za_iaload_s, zs_iaload, za_baload_s, zs_baload, za_laload_s, zs_laload, za_aaload_s, zs_aaload, za_iastore_s, zs_iastore, za_bastore_s, zs_bastore, za_lastore_s, zs_lastore, za_aasN_s, zs_aastoreN, za_aas_s, zs_aastore, za_alg_s, za_alg_n, zs_alen, za_gf_s, za_vl_0, za_vl_s, zs_getfield, za_pf_s, zs_putfield, za_nw_s, za_nw_t, za_tx_1, za_tx_2, zs_th, zs_new, zs_newarray, za_cx_s, zs_checkcast, za_vB_s, za_vA_s, za_sX_s, za_sN_s, za_sA_5, za_sA_6, za_sA_1, za_sA_3, za_oB_s, za_iA_2, za_iA_4, zs_invokevirtual, zs_invokestatic, zs_invokespecial, zs_ireturn, zs_return, zs_areturn, zs_areturnA, za_ex0, za_go_eq, za_fit_i, za_fit_b, za_fit_b0, za_fit_b1, za_fit_r, za_fit_n, za_fit_a, za_up_s, za_upup, za_fn_0, za_fn_1, za_fn_2, za_fn_3, za_cd_eq, za_cd_ne, za_cd_lt, za_cd_ge, za_cd_gt, za_cd_le, za_cat_i, za_cat_r, za_cat_n, zb_n0, zb_n1, zb_narrow, zn_narrow, Option.toList_some, Option.toList_none, List.set_cons_zero, List.set_cons_succ, List.length_cons, List.length_nil, List.take_succ_cons, List.take_zero, List.drop_succ_cons, List.drop_zero, List.reverse_cons, List.reverse_nil, List.nil_append, List.cons_append, List.map_cons, List.map_nil, List.replicate_succ, List.replicate_zero, true_and, and_true, true_or, or_true, false_or, or_false, eq_self, not_true_eq_false, not_false_eq_true, false_implies, true_implies, implies_true, and_self, Nat.zero_add, Nat.add_zero, Nat.le_refl, Nat.zero_le, Nat.reduceEqDiff, if_true, if_false, za_t.eq_1, za_t0.eq_1, Int.cast_ofNat_Int, Int.reduceAdd, Int.reduceToNat, Int.reduceLE, Int.reduceNeg, Nat.reduceAdd, Nat.reduceSub, Nat.reduceBEq, Nat.reduceLT, Nat.reduceLeDiff, ↓reduceIte, Bool.false_eq_true, Bool.or_false, Bool.or_true, Bool.false_or, Bool.true_or, decide_true, decide_false, ge_iff_le, gt_iff_lt, dX8_hasDraft_0, dX8_hasDraft_1, dX8_hasDraft_2, dX8_hasDraft_3, dX8_hasDraft_4, dX8_hasDraft_5, dX8_hasDraft_6, dX8_hasDraft_9, dX8_hasDraft_12, dX8_hasDraft_13, dX8_hasDraft_16, dX8_hasDraft_17, dX8_hasDraft_18, dX8_hasDraft_21, dX8_hasDraft_24, dX8_hasDraft_25, dX8_hasDraft_28, dX8_hasDraft_29, dX8_hasDraft_30, dX8_hasDraft_33, dX8_hasDraft_36, dX8_hasDraft_37, uX8_f149, uX8_m160, zi_i0, zi_i1, (zmo M), zM_len, ne_eq, ztu_ne, ztu_s, zfc_e, Nat.reduceMul, zM_1, (zmt_1 M), h1, zb_eq0, nI_add]
      refine ⟨fun z => absurd z (nI_ge (by omega) (by omega)), fun _ => ⟨fun z => ?_, fun z => ?_⟩⟩
      · rw [(Bool.not_eq_false _).mp z, Bool.true_or] at ih'
        exact ih'
      · rw [Decidable.not_not.mp z, Bool.false_or] at ih'
        refine za_call (mc' := 0) (ms' := 0) (by omega) (by omega) (n_isDraftOut F M V (by omega) (zr_2 R k (by omega)) (zr_4 R k (by omega)) (zr_5 R) _ ?_)
        simp only [za_lv_0, za_lv_s, za_isI_i, za_rf_r, za_rf_n, za_rf_v, za_ck_r, za_isC_eq, zs_f, zs_d, zs_iconst, zs_bipush, zs_sipush, zs_lconst, zs_null, zs_iload_n, zs_iload, zs_aload_n, zs_aload, za_iv_i, zs_iinc, zs_istore_n, zs_istore, zs_astore_n, zs_astore, zs_iadd, zs_isub, zs_imul, zs_iand, zs_ior, zs_ixor, zs_ishl, zs_ishr, zs_idiv, zs_i2l, zs_lcmp, zs_dup, zs_dup_x1, zs_dup2, zs_pop, zs_goto, zs_icmp, zs_ifc, zs_nonnull, zs_acmp_eq, zs_acmp_ne, za_sw_s, zs_switch, za_iaload_s, zs_iaload, za_baload_s, zs_baload, za_laload_s, zs_laload, za_aaload_s, zs_aaload, za_iastore_s, zs_iastore, za_bastore_s, zs_bastore, za_lastore_s, zs_lastore, za_aasN_s, zs_aastoreN, za_aas_s, zs_aastore, za_alg_s, za_alg_n, zs_alen, za_gf_s, za_vl_0, za_vl_s, zs_getfield, za_pf_s, zs_putfield, za_nw_s, za_nw_t, za_tx_1, za_tx_2, zs_th, zs_new, zs_newarray, za_cx_s, zs_checkcast, za_vB_s, za_vA_s, za_sX_s, za_sN_s, za_sA_5, za_sA_6, za_sA_1, za_sA_3, za_oB_s, za_iA_2, za_iA_4, zs_invokevirtual, zs_invokestatic, zs_invokespecial, zs_ireturn, zs_return, zs_areturn, zs_areturnA, za_ex0, za_go_eq, za_fit_i, za_fit_b, za_fit_b0, za_fit_b1, za_fit_r, za_fit_n, za_fit_a, za_up_s, za_upup, za_fn_0, za_fn_1, za_fn_2, za_fn_3, za_cd_eq, za_cd_ne, za_cd_lt, za_cd_ge, za_cd_gt, za_cd_le, za_cat_i, za_cat_r, za_cat_n, zb_n0, zb_n1, zb_narrow, zn_narrow, Option.toList_some, Option.toList_none, List.set_cons_zero, List.set_cons_succ, List.length_cons, List.length_nil, List.take_succ_cons, List.take_zero, List.drop_succ_cons, List.drop_zero, List.reverse_cons, List.reverse_nil, List.nil_append, List.cons_append, List.map_cons, List.map_nil, List.replicate_succ, List.replicate_zero, true_and, and_true, true_or, or_true, false_or, or_false, eq_self, not_true_eq_false, not_false_eq_true, false_implies, true_implies, implies_true, and_self, Nat.zero_add, Nat.add_zero, Nat.le_refl, Nat.zero_le, Nat.reduceEqDiff, if_true, if_false, za_t.eq_1, za_t0.eq_1, Int.cast_ofNat_Int, Int.reduceAdd, Int.reduceToNat, Int.reduceLE, Int.reduceNeg, Nat.reduceAdd, Nat.reduceSub, Nat.reduceBEq, Nat.reduceLT, Nat.reduceLeDiff, ↓reduceIte, Bool.false_eq_true, Bool.or_false, Bool.or_true, Bool.false_or, Bool.true_or, decide_true, decide_false, ge_iff_le, gt_iff_lt, dX8_hasDraft_0, dX8_hasDraft_1, dX8_hasDraft_2, dX8_hasDraft_3, dX8_hasDraft_4, dX8_hasDraft_5, dX8_hasDraft_6, dX8_hasDraft_9, dX8_hasDraft_12, dX8_hasDraft_13, dX8_hasDraft_16, dX8_hasDraft_17, dX8_hasDraft_18, dX8_hasDraft_21, dX8_hasDraft_24, dX8_hasDraft_25, dX8_hasDraft_28, dX8_hasDraft_29, dX8_hasDraft_30, dX8_hasDraft_33, dX8_hasDraft_36, dX8_hasDraft_37, uX8_f149, uX8_m160, zi_i0, zi_i1, (zmo M), zM_len, ne_eq, ztu_ne, ztu_s, zfc_e, Nat.reduceMul, zM_1, (zmt_1 M), zb_eq0, nI_add]
        refine ⟨fun y => ?_, fun y => ?_⟩
        · rw [(Bool.not_eq_false _).mp y] at ih'; exact ih'
        · rw [Decidable.not_not.mp y] at ih'; exact ih'
  refine hw 60 _ _ _ _ _ _ ?_
  simp only [za_lv_0, za_lv_s, za_isI_i, za_rf_r, za_rf_n, za_rf_v, za_ck_r, za_isC_eq, zs_f, zs_d, zs_iconst, zs_bipush, zs_sipush, zs_lconst, zs_null, zs_iload_n, zs_iload, zs_aload_n, zs_aload, za_iv_i, zs_iinc, zs_istore_n, zs_istore, zs_astore_n, zs_astore, zs_iadd, zs_isub, zs_imul, zs_iand, zs_ior, zs_ixor, zs_ishl, zs_ishr, zs_idiv, zs_i2l, zs_lcmp, zs_dup, zs_dup_x1, zs_dup2, zs_pop, zs_goto, zs_icmp, zs_ifc, zs_nonnull, zs_acmp_eq, zs_acmp_ne, za_sw_s, zs_switch, za_iaload_s, zs_iaload, za_baload_s, zs_baload, za_laload_s, zs_laload, za_aaload_s, zs_aaload, za_iastore_s, zs_iastore, za_bastore_s, zs_bastore, za_lastore_s, zs_lastore, za_aasN_s, zs_aastoreN, za_aas_s, zs_aastore, za_alg_s, za_alg_n, zs_alen, za_gf_s, za_vl_0, za_vl_s, zs_getfield, za_pf_s, zs_putfield, za_nw_s, za_nw_t, za_tx_1, za_tx_2, zs_th, zs_new, zs_newarray, za_cx_s, zs_checkcast, za_vB_s, za_vA_s, za_sX_s, za_sN_s, za_sA_5, za_sA_6, za_sA_1, za_sA_3, za_oB_s, za_iA_2, za_iA_4, zs_invokevirtual, zs_invokestatic, zs_invokespecial, zs_ireturn, zs_return, zs_areturn, zs_areturnA, za_ex0, za_go_eq, za_fit_i, za_fit_b, za_fit_b0, za_fit_b1, za_fit_r, za_fit_n, za_fit_a, za_up_s, za_upup, za_fn_0, za_fn_1, za_fn_2, za_fn_3, za_cd_eq, za_cd_ne, za_cd_lt, za_cd_ge, za_cd_gt, za_cd_le, za_cat_i, za_cat_r, za_cat_n, zb_n0, zb_n1, zb_narrow, zn_narrow, Option.toList_some, Option.toList_none, List.set_cons_zero, List.set_cons_succ, List.length_cons, List.length_nil, List.take_succ_cons, List.take_zero, List.drop_succ_cons, List.drop_zero, List.reverse_cons, List.reverse_nil, List.nil_append, List.cons_append, List.map_cons, List.map_nil, List.replicate_succ, List.replicate_zero, true_and, and_true, true_or, or_true, false_or, or_false, eq_self, not_true_eq_false, not_false_eq_true, false_implies, true_implies, implies_true, and_self, Nat.zero_add, Nat.add_zero, Nat.le_refl, Nat.zero_le, Nat.reduceEqDiff, if_true, if_false, za_t.eq_1, za_t0.eq_1, Int.cast_ofNat_Int, Int.reduceAdd, Int.reduceToNat, Int.reduceLE, Int.reduceNeg, Nat.reduceAdd, Nat.reduceSub, Nat.reduceBEq, Nat.reduceLT, Nat.reduceLeDiff, ↓reduceIte, Bool.false_eq_true, Bool.or_false, Bool.or_true, Bool.false_or, Bool.true_or, decide_true, decide_false, ge_iff_le, gt_iff_lt, dX8_hasDraft_0, dX8_hasDraft_1, dX8_hasDraft_2, dX8_hasDraft_3, dX8_hasDraft_4, dX8_hasDraft_5, dX8_hasDraft_6, dX8_hasDraft_9, dX8_hasDraft_12, dX8_hasDraft_13, dX8_hasDraft_16, dX8_hasDraft_17, dX8_hasDraft_18, dX8_hasDraft_21, dX8_hasDraft_24, dX8_hasDraft_25, dX8_hasDraft_28, dX8_hasDraft_29, dX8_hasDraft_30, dX8_hasDraft_33, dX8_hasDraft_36, dX8_hasDraft_37, uX8_f149, uX8_m160, zi_i0, zi_i1, (zmo M), zM_len, ne_eq, ztu_ne, ztu_s, zfc_e, Nat.reduceMul, zM_1, (zmt_1 M)]
  exact loop (S 15 (S 10 0 0) 0) 0 (by omega)
end ZSD
