/-! THE BEGINNING (1): the constructors -/
section ZSK
/-- new arrays and objects since h0, beside a -/
def zi_N (G : za_G) (h0 h : za_H) (a : Nat) (l : List (Nat × za_E)) : Prop := (l.map (fun p => p.1)).Nodup ∧ (∀ p ∈ l, p.1 ≠ a ∧ p.1 ≠ G.t ∧ h0 p.1 = none ∧ h p.1 = some p.2) ∧ ∀ b, b ≠ a → b ∉ l.map (fun p => p.1) → h b = h0 b
theorem zi_nil {G : za_G} {h0 h : za_H} {a : Nat} (q : ∀ b, b ≠ a → h b = h0 b) : zi_N G h0 h a [] := ⟨List.nodup_nil, fun p hp => absurd hp List.not_mem_nil, fun b hb _ => q b hb⟩
theorem zi_cons {G : za_G} {h0 h : za_H} {a l : Nat} {va e e' : za_E} {t : List (Nat × za_E)} (q : zi_N G h0 h a t) (ha : h a = some va) (hl : za_nn G h l) : zi_N G h0 (za_up (za_up h l e) a e') a ((l, e) :: t) := by
  obtain ⟨q1, q2, q3⟩ := q
  have hn : l ≠ a := fun z => by have := hl.1; rw [z, ha] at this; cases this
  have nt : l ∉ t.map (fun p => p.1) := fun y => by
    obtain ⟨p, p1, p2⟩ := List.mem_map.mp y
    have := (q2 p p1).2.2.2
    rw [p2, hl.1] at this
    cases this
  refine ⟨List.nodup_cons.mpr ⟨nt, q1⟩, fun p hp => ?_, fun b hb hb2 => ?_⟩
  · rcases List.mem_cons.mp hp with y | y
    · subst y
      exact ⟨hn, hl.2, by rw [← q3 l hn nt]; exact hl.1, by rw [za_up_n _ _ hn, za_up_s]⟩
    · obtain ⟨r1, r2, r3, r4⟩ := q2 p y
      have : p.1 ≠ l := fun z => nt (by rw [← z]; exact List.mem_map.mpr ⟨p, y, rfl⟩)
      exact ⟨r1, r2, r3, by rw [za_up_n _ _ r1, za_up_n _ _ this]; exact r4⟩
  · rw [List.map_cons, List.mem_cons, not_or] at hb2
    rw [za_up_n _ _ hb, za_up_n _ _ hb2.1]
    exact q3 b hb hb2.2
/-- an empty list -/
def ze_L (G : za_G) : za_E := .inr (0, [.int (nI 0), .ref G.t, .int (nI 0)])
theorem m_TowerI {G : za_G} (F : za_F G) {a : Nat} {h : za_H} {v0 v1 v2 v3 v4 v5 v6 v7 v8 v9 : Value} (ha : h a = some (.inr (8, [v0, v1, v2, v3, v4, v5, v6, v7, v8, v9]))) (K : za_O → za_H → Prop) (q : ∀ h' l0 l1 l2 l3 l4 l5, h' a = some (.inr (8, [.ref l0, .ref l1, .ref l2, .ref l3, .ref l4, .ref l5, .int (nI 0), .int (nI 0), .int (nI 0), .int (nI 0)])) → zi_N G h h' a [(l5, ze_L G), (l4, ze_L G), (l3, ze_L G), (l2, ze_L G), (l1, ze_L G), (l0, ze_L G)] → K (.inl none) h') : za_P G mX7_init [.ref a] h 6 18 K := by
  obtain ⟨h0, hh⟩ : ∃ x, x = h := ⟨_, rfl⟩
  have L : zi_N G h0 h a [] := zi_nil (fun b _ => by rw [hh])
  rw [← hh] at q
  clear hh
  refine za_m (y := yX7_init) (cc := cX7_init) (nL := 1) (ret := none) (hh := []) (fr := 4) (lk := lkX7) (hx := []) (ini := true) (cuts := fun p => false) F okX7 trivial (by decide +kernel) (by decide +kernel) (Nat.le_of_ble_eq_true rfl) (by simp [Value.category]) (fun w hw => ?_)
  refine hw 60 _ _ _ _ _ _ ?_
  simp only [za_lv_0, za_lv_s, za_isI_i, za_rf_r, za_rf_n, za_rf_v, za_ck_r, za_isC_eq, zs_f, zs_d, zs_iconst, zs_bipush, zs_sipush, zs_lconst, zs_null, zs_iload_n, zs_iload, zs_aload_n, zs_aload, za_iv_i, zs_iinc, zs_istore_n, zs_istore, zs_astore_n, zs_astore, zs_iadd, zs_isub, zs_imul, zs_iand, zs_ior, zs_ixor, zs_ishl, zs_ishr, zs_idiv, zs_i2l, zs_lcmp, zs_dup, zs_dup_x1, zs_dup2, zs_pop, zs_goto, zs_icmp, zs_ifc, zs_nonnull, zs_acmp_eq, zs_acmp_ne, za_sw_s, zs_switch, za_iaload_s, zs_iaload, za_baload_s, zs_baload, za_laload_s, zs_laload, za_aaload_s, zs_aaload, za_iastore_s, zs_iastore, za_bastore_s, zs_bastore, za_lastore_s, zs_lastore, za_aasN_s, zs_aastoreN, za_aas_s, zs_aastore, za_alg_s, za_alg_n, zs_alen, za_gf_s, za_vl_0, za_vl_s, zs_getfield, za_pf_s, zs_putfield, za_nw_s, za_nw_t, za_tx_1, za_tx_2, zs_th, zs_new, zs_newarray, za_cx_s, zs_checkcast, za_vB_s, za_vA_s, za_sX_s, za_sN_s, za_sA_5, za_sA_6, za_sA_1, za_sA_3, za_oB_s, za_iA_2, za_iA_4, zs_invokevirtual, zs_invokestatic, zs_invokespecial, zs_ireturn, zs_return, zs_areturn, zs_areturnA, za_ex0, za_go_eq, za_fit_i, za_fit_b, za_fit_b0, za_fit_b1, za_fit_r, za_fit_n, za_fit_a, za_up_s, za_upup, za_fn_0, za_fn_1, za_fn_2, za_fn_3, za_cd_eq, za_cd_ne, za_cd_lt, za_cd_ge, za_cd_gt, za_cd_le, za_cat_i, za_cat_r, za_cat_n, zb_n0, zb_n1, zb_narrow, zn_narrow, Option.toList_some, Option.toList_none, List.set_cons_zero, List.set_cons_succ, List.length_cons, List.length_nil, List.take_succ_cons, List.take_zero, List.drop_succ_cons, List.drop_zero, List.reverse_cons, List.reverse_nil, List.nil_append, List.cons_append, List.map_cons, List.map_nil, List.replicate_succ, List.replicate_zero, true_and, and_true, true_or, or_true, false_or, or_false, eq_self, not_true_eq_false, not_false_eq_true, false_implies, true_implies, implies_true, and_self, Nat.zero_add, Nat.add_zero, Nat.le_refl, Nat.zero_le, Nat.reduceEqDiff, if_true, if_false, za_t.eq_1, za_t0.eq_1, Int.cast_ofNat_Int, Int.reduceAdd, Int.reduceToNat, Int.reduceLE, Int.reduceNeg, Nat.reduceAdd, Nat.reduceSub, Nat.reduceBEq, Nat.reduceLT, Nat.reduceLeDiff, ↓reduceIte, Bool.false_eq_true, Bool.or_false, Bool.or_true, Bool.false_or, Bool.true_or, decide_true, decide_false, ge_iff_le, gt_iff_lt, dX7_init_0, dX7_init_1, dX7_init_4, dX7_init_5, dX7_init_8, dX7_init_9, dX7_init_12, dX7_init_15, dX7_init_16, dX7_init_19, dX7_init_20, dX7_init_23, dX7_init_26, dX7_init_27, dX7_init_30, dX7_init_31, dX7_init_34, dX7_init_37, dX7_init_38, dX7_init_41, dX7_init_42, dX7_init_45, dX7_init_48, dX7_init_49, dX7_init_52, dX7_init_53, dX7_init_56, dX7_init_59, dX7_init_60, dX7_init_63, dX7_init_64, dX7_init_67, dX7_init_70, dX7_init_71, dX7_init_72, dX7_init_75, dX7_init_76, dX7_init_77, dX7_init_80, dX7_init_81, dX7_init_82, dX7_init_85, dX7_init_86, dX7_init_87, dX7_init_90, uX7_m1, uX7_n7, uX7_m9, uX7_f10, uX7_f16, uX7_f19, uX7_f22, uX7_f25, uX7_f28, uX7_f31, uX7_f35, uX7_f38, uX7_f41, zi_i0, ha]
  intro l0 hn
  have hal : a ≠ l0 := fun z => by have := hn.1; rw [← z, ha] at this; cases this
  refine za_call (mc' := 0) (ms' := 0) (by omega) (by omega) (j_init F (za_up_s _ _ _) _ ?_)
  rw [za_upup]
  have hb := (za_up_n h (.inr (0, [.int (nI 0), .ref G.t, .int (nI 0)])) hal).trans ha
  simp only [za_lv_0, za_lv_s, za_isI_i, za_rf_r, za_rf_n, za_rf_v, za_ck_r, za_isC_eq, zs_f, zs_d, zs_iconst, zs_bipush, zs_sipush, zs_lconst, zs_null, zs_iload_n, zs_iload, zs_aload_n, zs_aload, za_iv_i, zs_iinc, zs_istore_n, zs_istore, zs_astore_n, zs_astore, zs_iadd, zs_isub, zs_imul, zs_iand, zs_ior, zs_ixor, zs_ishl, zs_ishr, zs_idiv, zs_i2l, zs_lcmp, zs_dup, zs_dup_x1, zs_dup2, zs_pop, zs_goto, zs_icmp, zs_ifc, zs_nonnull, zs_acmp_eq, zs_acmp_ne, za_sw_s, zs_switch, za_iaload_s, zs_iaload, za_baload_s, zs_baload, za_laload_s, zs_laload, za_aaload_s, zs_aaload, za_iastore_s, zs_iastore, za_bastore_s, zs_bastore, za_lastore_s, zs_lastore, za_aasN_s, zs_aastoreN, za_aas_s, zs_aastore, za_alg_s, za_alg_n, zs_alen, za_gf_s, za_vl_0, za_vl_s, zs_getfield, za_pf_s, zs_putfield, za_nw_s, za_nw_t, za_tx_1, za_tx_2, zs_th, zs_new, zs_newarray, za_cx_s, zs_checkcast, za_vB_s, za_vA_s, za_sX_s, za_sN_s, za_sA_5, za_sA_6, za_sA_1, za_sA_3, za_oB_s, za_iA_2, za_iA_4, zs_invokevirtual, zs_invokestatic, zs_invokespecial, zs_ireturn, zs_return, zs_areturn, zs_areturnA, za_ex0, za_go_eq, za_fit_i, za_fit_b, za_fit_b0, za_fit_b1, za_fit_r, za_fit_n, za_fit_a, za_up_s, za_upup, za_fn_0, za_fn_1, za_fn_2, za_fn_3, za_cd_eq, za_cd_ne, za_cd_lt, za_cd_ge, za_cd_gt, za_cd_le, za_cat_i, za_cat_r, za_cat_n, zb_n0, zb_n1, zb_narrow, zn_narrow, Option.toList_some, Option.toList_none, List.set_cons_zero, List.set_cons_succ, List.length_cons, List.length_nil, List.take_succ_cons, List.take_zero, List.drop_succ_cons, List.drop_zero, List.reverse_cons, List.reverse_nil, List.nil_append, List.cons_append, List.map_cons, List.map_nil, List.replicate_succ, List.replicate_zero, true_and, and_true, true_or, or_true, false_or, or_false, eq_self, not_true_eq_false, not_false_eq_true, false_implies, true_implies, implies_true, and_self, Nat.zero_add, Nat.add_zero, Nat.le_refl, Nat.zero_le, Nat.reduceEqDiff, if_true, if_false, za_t.eq_1, za_t0.eq_1, Int.cast_ofNat_Int, Int.reduceAdd, Int.reduceToNat, Int.reduceLE, Int.reduceNeg, Nat.reduceAdd, Nat.reduceSub, Nat.reduceBEq, Nat.reduceLT, Nat.reduceLeDiff, ↓reduceIte, Bool.false_eq_true, Bool.or_false, Bool.or_true, Bool.false_or, Bool.true_or, decide_true, decide_false, ge_iff_le, gt_iff_lt, dX7_init_0, dX7_init_1, dX7_init_4, dX7_init_5, dX7_init_8, dX7_init_9, dX7_init_12, dX7_init_15, dX7_init_16, dX7_init_19, dX7_init_20, dX7_init_23, dX7_init_26, dX7_init_27, dX7_init_30, dX7_init_31, dX7_init_34, dX7_init_37, dX7_init_38, dX7_init_41, dX7_init_42, dX7_init_45, dX7_init_48, dX7_init_49, dX7_init_52, dX7_init_53, dX7_init_56, dX7_init_59, dX7_init_60, dX7_init_63, dX7_init_64, dX7_init_67, dX7_init_70, dX7_init_71, dX7_init_72, dX7_init_75, dX7_init_76, dX7_init_77, dX7_init_80, dX7_init_81, dX7_init_82, dX7_init_85, dX7_init_86, dX7_init_87, dX7_init_90, uX7_m1, uX7_n7, uX7_m9, uX7_f10, uX7_f16, uX7_f19, uX7_f22, uX7_f25, uX7_f28, uX7_f31, uX7_f35, uX7_f38, uX7_f41, zi_i0, hb]
  have L := zi_cons (e := ze_L G) (e' := .inr (8, [.ref l0, v1, v2, v3, v4, v5, v6, v7, v8, v9])) L ha hn
  have ha := za_up_s (za_up h l0 (.inr (0, [.int (nI 0), .ref G.t, .int (nI 0)]))) a (.inr (8, [.ref l0, v1, v2, v3, v4, v5, v6, v7, v8, v9]))
  unfold ze_L at L
  generalize za_up (za_up h l0 (.inr (0, [.int (nI 0), .ref G.t, .int (nI 0)]))) a (.inr (8, [.ref l0, v1, v2, v3, v4, v5, v6, v7, v8, v9])) = h at *
  have L : zi_N G h0 h a [(l0, ze_L G)] := L
  intro l1 hn
  have hal : a ≠ l1 := fun z => by have := hn.1; rw [← z, ha] at this; cases this
  refine za_call (mc' := 0) (ms' := 0) (by omega) (by omega) (j_init F (za_up_s _ _ _) _ ?_)
  rw [za_upup]
  have hb := (za_up_n h (.inr (0, [.int (nI 0), .ref G.t, .int (nI 0)])) hal).trans ha
  simp only [za_lv_0, za_lv_s, za_isI_i, za_rf_r, za_rf_n, za_rf_v, za_ck_r, za_isC_eq, zs_f, zs_d, zs_iconst, zs_bipush, zs_sipush, zs_lconst, zs_null, zs_iload_n, zs_iload, zs_aload_n, zs_aload, za_iv_i, zs_iinc, zs_istore_n, zs_istore, zs_astore_n, zs_astore, zs_iadd, zs_isub, zs_imul, zs_iand, zs_ior, zs_ixor, zs_ishl, zs_ishr, zs_idiv, zs_i2l, zs_lcmp, zs_dup, zs_dup_x1, zs_dup2, zs_pop, zs_goto, zs_icmp, zs_ifc, zs_nonnull, zs_acmp_eq, zs_acmp_ne, za_sw_s, zs_switch, za_iaload_s, zs_iaload, za_baload_s, zs_baload, za_laload_s, zs_laload, za_aaload_s, zs_aaload, za_iastore_s, zs_iastore, za_bastore_s, zs_bastore, za_lastore_s, zs_lastore, za_aasN_s, zs_aastoreN, za_aas_s, zs_aastore, za_alg_s, za_alg_n, zs_alen, za_gf_s, za_vl_0, za_vl_s, zs_getfield, za_pf_s, zs_putfield, za_nw_s, za_nw_t, za_tx_1, za_tx_2, zs_th, zs_new, zs_newarray, za_cx_s, zs_checkcast, za_vB_s, za_vA_s, za_sX_s, za_sN_s, za_sA_5, za_sA_6, za_sA_1, za_sA_3, za_oB_s, za_iA_2, za_iA_4, zs_invokevirtual, zs_invokestatic, zs_invokespecial, zs_ireturn, zs_return, zs_areturn, zs_areturnA, za_ex0, za_go_eq, za_fit_i, za_fit_b, za_fit_b0, za_fit_b1, za_fit_r, za_fit_n, za_fit_a, za_up_s, za_upup, za_fn_0, za_fn_1, za_fn_2, za_fn_3, za_cd_eq, za_cd_ne, za_cd_lt, za_cd_ge, za_cd_gt, za_cd_le, za_cat_i, za_cat_r, za_cat_n, zb_n0, zb_n1, zb_narrow, zn_narrow, Option.toList_some, Option.toList_none, List.set_cons_zero, List.set_cons_succ, List.length_cons, List.length_nil, List.take_succ_cons, List.take_zero, List.drop_succ_cons, List.drop_zero, List.reverse_cons, List.reverse_nil, List.nil_append, List.cons_append, List.map_cons, List.map_nil, List.replicate_succ, List.replicate_zero, true_and, and_true, true_or, or_true, false_or, or_false, eq_self, not_true_eq_false, not_false_eq_true, false_implies, true_implies, implies_true, and_self, Nat.zero_add, Nat.add_zero, Nat.le_refl, Nat.zero_le, Nat.reduceEqDiff, if_true, if_false, za_t.eq_1, za_t0.eq_1, Int.cast_ofNat_Int, Int.reduceAdd, Int.reduceToNat, Int.reduceLE, Int.reduceNeg, Nat.reduceAdd, Nat.reduceSub, Nat.reduceBEq, Nat.reduceLT, Nat.reduceLeDiff, ↓reduceIte, Bool.false_eq_true, Bool.or_false, Bool.or_true, Bool.false_or, Bool.true_or, decide_true, decide_false, ge_iff_le, gt_iff_lt, dX7_init_0, dX7_init_1, dX7_init_4, dX7_init_5, dX7_init_8, dX7_init_9, dX7_init_12, dX7_init_15, dX7_init_16, dX7_init_19, dX7_init_20, dX7_init_23, dX7_init_26, dX7_init_27, dX7_init_30, dX7_init_31, dX7_init_34, dX7_init_37, dX7_init_38, dX7_init_41, dX7_init_42, dX7_init_45, dX7_init_48, dX7_init_49, dX7_init_52, dX7_init_53, dX7_init_56, dX7_init_59, dX7_init_60, dX7_init_63, dX7_init_64, dX7_init_67, dX7_init_70, dX7_init_71, dX7_init_72, dX7_init_75, dX7_init_76, dX7_init_77, dX7_init_80, dX7_init_81, dX7_init_82, dX7_init_85, dX7_init_86, dX7_init_87, dX7_init_90, uX7_m1, uX7_n7, uX7_m9, uX7_f10, uX7_f16, uX7_f19, uX7_f22, uX7_f25, uX7_f28, uX7_f31, uX7_f35, uX7_f38, uX7_f41, zi_i0, hb]
  have L := zi_cons (e := ze_L G) (e' := .inr (8, [.ref l0, .ref l1, v2, v3, v4, v5, v6, v7, v8, v9])) L ha hn
  have ha := za_up_s (za_up h l1 (.inr (0, [.int (nI 0), .ref G.t, .int (nI 0)]))) a (.inr (8, [.ref l0, .ref l1, v2, v3, v4, v5, v6, v7, v8, v9]))
  unfold ze_L at L
  generalize za_up (za_up h l1 (.inr (0, [.int (nI 0), .ref G.t, .int (nI 0)]))) a (.inr (8, [.ref l0, .ref l1, v2, v3, v4, v5, v6, v7, v8, v9])) = h at *
  have L : zi_N G h0 h a [(l1, ze_L G), (l0, ze_L G)] := L
  intro l2 hn
  have hal : a ≠ l2 := fun z => by have := hn.1; rw [← z, ha] at this; cases this
  refine za_call (mc' := 0) (ms' := 0) (by omega) (by omega) (j_init F (za_up_s _ _ _) _ ?_)
  rw [za_upup]
  have hb := (za_up_n h (.inr (0, [.int (nI 0), .ref G.t, .int (nI 0)])) hal).trans ha
  simp only [za_lv_0, za_lv_s, za_isI_i, za_rf_r, za_rf_n, za_rf_v, za_ck_r, za_isC_eq, zs_f, zs_d, zs_iconst, zs_bipush, zs_sipush, zs_lconst, zs_null, zs_iload_n, zs_iload, zs_aload_n, zs_aload, za_iv_i, zs_iinc, zs_istore_n, zs_istore, zs_astore_n, zs_astore, zs_iadd, zs_isub, zs_imul, zs_iand, zs_ior, zs_ixor, zs_ishl, zs_ishr, zs_idiv, zs_i2l, zs_lcmp, zs_dup, zs_dup_x1, zs_dup2, zs_pop, zs_goto, zs_icmp, zs_ifc, zs_nonnull, zs_acmp_eq, zs_acmp_ne, za_sw_s, zs_switch, za_iaload_s, zs_iaload, za_baload_s, zs_baload, za_laload_s, zs_laload, za_aaload_s, zs_aaload, za_iastore_s, zs_iastore, za_bastore_s, zs_bastore, za_lastore_s, zs_lastore, za_aasN_s, zs_aastoreN, za_aas_s, zs_aastore, za_alg_s, za_alg_n, zs_alen, za_gf_s, za_vl_0, za_vl_s, zs_getfield, za_pf_s, zs_putfield, za_nw_s, za_nw_t, za_tx_1, za_tx_2, zs_th, zs_new, zs_newarray, za_cx_s, zs_checkcast, za_vB_s, za_vA_s, za_sX_s, za_sN_s, za_sA_5, za_sA_6, za_sA_1, za_sA_3, za_oB_s, za_iA_2, za_iA_4, zs_invokevirtual, zs_invokestatic, zs_invokespecial, zs_ireturn, zs_return, zs_areturn, zs_areturnA, za_ex0, za_go_eq, za_fit_i, za_fit_b, za_fit_b0, za_fit_b1, za_fit_r, za_fit_n, za_fit_a, za_up_s, za_upup, za_fn_0, za_fn_1, za_fn_2, za_fn_3, za_cd_eq, za_cd_ne, za_cd_lt, za_cd_ge, za_cd_gt, za_cd_le, za_cat_i, za_cat_r, za_cat_n, zb_n0, zb_n1, zb_narrow, zn_narrow, Option.toList_some, Option.toList_none, List.set_cons_zero, List.set_cons_succ, List.length_cons, List.length_nil, List.take_succ_cons, List.take_zero, List.drop_succ_cons, List.drop_zero, List.reverse_cons, List.reverse_nil, List.nil_append, List.cons_append, List.map_cons, List.map_nil, List.replicate_succ, List.replicate_zero, true_and, and_true, true_or, or_true, false_or, or_false, eq_self, not_true_eq_false, not_false_eq_true, false_implies, true_implies, implies_true, and_self, Nat.zero_add, Nat.add_zero, Nat.le_refl, Nat.zero_le, Nat.reduceEqDiff, if_true, if_false, za_t.eq_1, za_t0.eq_1, Int.cast_ofNat_Int, Int.reduceAdd, Int.reduceToNat, Int.reduceLE, Int.reduceNeg, Nat.reduceAdd, Nat.reduceSub, Nat.reduceBEq, Nat.reduceLT, Nat.reduceLeDiff, ↓reduceIte, Bool.false_eq_true, Bool.or_false, Bool.or_true, Bool.false_or, Bool.true_or, decide_true, decide_false, ge_iff_le, gt_iff_lt, dX7_init_0, dX7_init_1, dX7_init_4, dX7_init_5, dX7_init_8, dX7_init_9, dX7_init_12, dX7_init_15, dX7_init_16, dX7_init_19, dX7_init_20, dX7_init_23, dX7_init_26, dX7_init_27, dX7_init_30, dX7_init_31, dX7_init_34, dX7_init_37, dX7_init_38, dX7_init_41, dX7_init_42, dX7_init_45, dX7_init_48, dX7_init_49, dX7_init_52, dX7_init_53, dX7_init_56, dX7_init_59, dX7_init_60, dX7_init_63, dX7_init_64, dX7_init_67, dX7_init_70, dX7_init_71, dX7_init_72, dX7_init_75, dX7_init_76, dX7_init_77, dX7_init_80, dX7_init_81, dX7_init_82, dX7_init_85, dX7_init_86, dX7_init_87, dX7_init_90, uX7_m1, uX7_n7, uX7_m9, uX7_f10, uX7_f16, uX7_f19, uX7_f22, uX7_f25, uX7_f28, uX7_f31, uX7_f35, uX7_f38, uX7_f41, zi_i0, hb]
  have L := zi_cons (e := ze_L G) (e' := .inr (8, [.ref l0, .ref l1, .ref l2, v3, v4, v5, v6, v7, v8, v9])) L ha hn
  have ha := za_up_s (za_up h l2 (.inr (0, [.int (nI 0), .ref G.t, .int (nI 0)]))) a (.inr (8, [.ref l0, .ref l1, .ref l2, v3, v4, v5, v6, v7, v8, v9]))
  unfold ze_L at L
  generalize za_up (za_up h l2 (.inr (0, [.int (nI 0), .ref G.t, .int (nI 0)]))) a (.inr (8, [.ref l0, .ref l1, .ref l2, v3, v4, v5, v6, v7, v8, v9])) = h at *
  have L : zi_N G h0 h a [(l2, ze_L G), (l1, ze_L G), (l0, ze_L G)] := L
  intro l3 hn
  have hal : a ≠ l3 := fun z => by have := hn.1; rw [← z, ha] at this; cases this
  refine za_call (mc' := 0) (ms' := 0) (by omega) (by omega) (j_init F (za_up_s _ _ _) _ ?_)
  rw [za_upup]
  have hb := (za_up_n h (.inr (0, [.int (nI 0), .ref G.t, .int (nI 0)])) hal).trans ha
  simp only [za_lv_0, za_lv_s, za_isI_i, za_rf_r, za_rf_n, za_rf_v, za_ck_r, za_isC_eq, zs_f, zs_d, zs_iconst, zs_bipush, zs_sipush, zs_lconst, zs_null, zs_iload_n, zs_iload, zs_aload_n, zs_aload, za_iv_i, zs_iinc, zs_istore_n, zs_istore, zs_astore_n, zs_astore, zs_iadd, zs_isub, zs_imul, zs_iand, zs_ior, zs_ixor, zs_ishl, zs_ishr, zs_idiv, zs_i2l, zs_lcmp, zs_dup, zs_dup_x1, zs_dup2, zs_pop, zs_goto, zs_icmp, zs_ifc, zs_nonnull, zs_acmp_eq, zs_acmp_ne, za_sw_s, zs_switch, za_iaload_s, zs_iaload, za_baload_s, zs_baload, za_laload_s, zs_laload, za_aaload_s, zs_aaload, za_iastore_s, zs_iastore, za_bastore_s, zs_bastore, za_lastore_s, zs_lastore, za_aasN_s, zs_aastoreN, za_aas_s, zs_aastore, za_alg_s, za_alg_n, zs_alen, za_gf_s, za_vl_0, za_vl_s, zs_getfield, za_pf_s, zs_putfield, za_nw_s, za_nw_t, za_tx_1, za_tx_2, zs_th, zs_new, zs_newarray, za_cx_s, zs_checkcast, za_vB_s, za_vA_s, za_sX_s, za_sN_s, za_sA_5, za_sA_6, za_sA_1, za_sA_3, za_oB_s, za_iA_2, za_iA_4, zs_invokevirtual, zs_invokestatic, zs_invokespecial, zs_ireturn, zs_return, zs_areturn, zs_areturnA, za_ex0, za_go_eq, za_fit_i, za_fit_b, za_fit_b0, za_fit_b1, za_fit_r, za_fit_n, za_fit_a, za_up_s, za_upup, za_fn_0, za_fn_1, za_fn_2, za_fn_3, za_cd_eq, za_cd_ne, za_cd_lt, za_cd_ge, za_cd_gt, za_cd_le, za_cat_i, za_cat_r, za_cat_n, zb_n0, zb_n1, zb_narrow, zn_narrow, Option.toList_some, Option.toList_none, List.set_cons_zero, List.set_cons_succ, List.length_cons, List.length_nil, List.take_succ_cons, List.take_zero, List.drop_succ_cons, List.drop_zero, List.reverse_cons, List.reverse_nil, List.nil_append, List.cons_append, List.map_cons, List.map_nil, List.replicate_succ, List.replicate_zero, true_and, and_true, true_or, or_true, false_or, or_false, eq_self, not_true_eq_false, not_false_eq_true, false_implies, true_implies, implies_true, and_self, Nat.zero_add, Nat.add_zero, Nat.le_refl, Nat.zero_le, Nat.reduceEqDiff, if_true, if_false, za_t.eq_1, za_t0.eq_1, Int.cast_ofNat_Int, Int.reduceAdd, Int.reduceToNat, Int.reduceLE, Int.reduceNeg, Nat.reduceAdd, Nat.reduceSub, Nat.reduceBEq, Nat.reduceLT, Nat.reduceLeDiff, ↓reduceIte, Bool.false_eq_true, Bool.or_false, Bool.or_true, Bool.false_or, Bool.true_or, decide_true, decide_false, ge_iff_le, gt_iff_lt, dX7_init_0, dX7_init_1, dX7_init_4, dX7_init_5, dX7_init_8, dX7_init_9, dX7_init_12, dX7_init_15, dX7_init_16, dX7_init_19, dX7_init_20, dX7_init_23, dX7_init_26, dX7_init_27, dX7_init_30, dX7_init_31, dX7_init_34, dX7_init_37, dX7_init_38, dX7_init_41, dX7_init_42, dX7_init_45, dX7_init_48, dX7_init_49, dX7_init_52, dX7_init_53, dX7_init_56, dX7_init_59, dX7_init_60, dX7_init_63, dX7_init_64, dX7_init_67, dX7_init_70, dX7_init_71, dX7_init_72, dX7_init_75, dX7_init_76, dX7_init_77, dX7_init_80, dX7_init_81, dX7_init_82, dX7_init_85, dX7_init_86, dX7_init_87, dX7_init_90, uX7_m1, uX7_n7, uX7_m9, uX7_f10, uX7_f16, uX7_f19, uX7_f22, uX7_f25, uX7_f28, uX7_f31, uX7_f35, uX7_f38, uX7_f41, zi_i0, hb]
  have L := zi_cons (e := ze_L G) (e' := .inr (8, [.ref l0, .ref l1, .ref l2, .ref l3, v4, v5, v6, v7, v8, v9])) L ha hn
  have ha := za_up_s (za_up h l3 (.inr (0, [.int (nI 0), .ref G.t, .int (nI 0)]))) a (.inr (8, [.ref l0, .ref l1, .ref l2, .ref l3, v4, v5, v6, v7, v8, v9]))
  unfold ze_L at L
  generalize za_up (za_up h l3 (.inr (0, [.int (nI 0), .ref G.t, .int (nI 0)]))) a (.inr (8, [.ref l0, .ref l1, .ref l2, .ref l3, v4, v5, v6, v7, v8, v9])) = h at *
  have L : zi_N G h0 h a [(l3, ze_L G), (l2, ze_L G), (l1, ze_L G), (l0, ze_L G)] := L
  intro l4 hn
  have hal : a ≠ l4 := fun z => by have := hn.1; rw [← z, ha] at this; cases this
  refine za_call (mc' := 0) (ms' := 0) (by omega) (by omega) (j_init F (za_up_s _ _ _) _ ?_)
  rw [za_upup]
  have hb := (za_up_n h (.inr (0, [.int (nI 0), .ref G.t, .int (nI 0)])) hal).trans ha
  simp only [za_lv_0, za_lv_s, za_isI_i, za_rf_r, za_rf_n, za_rf_v, za_ck_r, za_isC_eq, zs_f, zs_d, zs_iconst, zs_bipush, zs_sipush, zs_lconst, zs_null, zs_iload_n, zs_iload, zs_aload_n, zs_aload, za_iv_i, zs_iinc, zs_istore_n, zs_istore, zs_astore_n, zs_astore, zs_iadd, zs_isub, zs_imul, zs_iand, zs_ior, zs_ixor, zs_ishl, zs_ishr, zs_idiv, zs_i2l, zs_lcmp, zs_dup, zs_dup_x1, zs_dup2, zs_pop, zs_goto, zs_icmp, zs_ifc, zs_nonnull, zs_acmp_eq, zs_acmp_ne, za_sw_s, zs_switch, za_iaload_s, zs_iaload, za_baload_s, zs_baload, za_laload_s, zs_laload, za_aaload_s, zs_aaload, za_iastore_s, zs_iastore, za_bastore_s, zs_bastore, za_lastore_s, zs_lastore, za_aasN_s, zs_aastoreN, za_aas_s, zs_aastore, za_alg_s, za_alg_n, zs_alen, za_gf_s, za_vl_0, za_vl_s, zs_getfield, za_pf_s, zs_putfield, za_nw_s, za_nw_t, za_tx_1, za_tx_2, zs_th, zs_new, zs_newarray, za_cx_s, zs_checkcast, za_vB_s, za_vA_s, za_sX_s, za_sN_s, za_sA_5, za_sA_6, za_sA_1, za_sA_3, za_oB_s, za_iA_2, za_iA_4, zs_invokevirtual, zs_invokestatic, zs_invokespecial, zs_ireturn, zs_return, zs_areturn, zs_areturnA, za_ex0, za_go_eq, za_fit_i, za_fit_b, za_fit_b0, za_fit_b1, za_fit_r, za_fit_n, za_fit_a, za_up_s, za_upup, za_fn_0, za_fn_1, za_fn_2, za_fn_3, za_cd_eq, za_cd_ne, za_cd_lt, za_cd_ge, za_cd_gt, za_cd_le, za_cat_i, za_cat_r, za_cat_n, zb_n0, zb_n1, zb_narrow, zn_narrow, Option.toList_some, Option.toList_none, List.set_cons_zero, List.set_cons_succ, List.length_cons, List.length_nil, List.take_succ_cons, List.take_zero, List.drop_succ_cons, List.drop_zero, List.reverse_cons, List.reverse_nil, List.nil_append, List.cons_append, List.map_cons, List.map_nil, List.replicate_succ, List.replicate_zero, true_and, and_true, true_or, or_true, false_or, or_false, eq_self, not_true_eq_false, not_false_eq_true, false_implies, true_implies, implies_true, and_self, Nat.zero_add, Nat.add_zero, Nat.le_refl, Nat.zero_le, Nat.reduceEqDiff, if_true, if_false, za_t.eq_1, za_t0.eq_1, Int.cast_ofNat_Int, Int.reduceAdd, Int.reduceToNat, Int.reduceLE, Int.reduceNeg, Nat.reduceAdd, Nat.reduceSub, Nat.reduceBEq, Nat.reduceLT, Nat.reduceLeDiff, ↓reduceIte, Bool.false_eq_true, Bool.or_false, Bool.or_true, Bool.false_or, Bool.true_or, decide_true, decide_false, ge_iff_le, gt_iff_lt, dX7_init_0, dX7_init_1, dX7_init_4, dX7_init_5, dX7_init_8, dX7_init_9, dX7_init_12, dX7_init_15, dX7_init_16, dX7_init_19, dX7_init_20, dX7_init_23, dX7_init_26, dX7_init_27, dX7_init_30, dX7_init_31, dX7_init_34, dX7_init_37, dX7_init_38, dX7_init_41, dX7_init_42, dX7_init_45, dX7_init_48, dX7_init_49, dX7_init_52, dX7_init_53, dX7_init_56, dX7_init_59, dX7_init_60, dX7_init_63, dX7_init_64, dX7_init_67, dX7_init_70, dX7_init_71, dX7_init_72, dX7_init_75, dX7_init_76, dX7_init_77, dX7_init_80, dX7_init_81, dX7_init_82, dX7_init_85, dX7_init_86, dX7_init_87, dX7_init_90, uX7_m1, uX7_n7, uX7_m9, uX7_f10, uX7_f16, uX7_f19, uX7_f22, uX7_f25, uX7_f28, uX7_f31, uX7_f35, uX7_f38, uX7_f41, zi_i0, hb]
  have L := zi_cons (e := ze_L G) (e' := .inr (8, [.ref l0, .ref l1, .ref l2, .ref l3, .ref l4, v5, v6, v7, v8, v9])) L ha hn
  have ha := za_up_s (za_up h l4 (.inr (0, [.int (nI 0), .ref G.t, .int (nI 0)]))) a (.inr (8, [.ref l0, .ref l1, .ref l2, .ref l3, .ref l4, v5, v6, v7, v8, v9]))
  unfold ze_L at L
  generalize za_up (za_up h l4 (.inr (0, [.int (nI 0), .ref G.t, .int (nI 0)]))) a (.inr (8, [.ref l0, .ref l1, .ref l2, .ref l3, .ref l4, v5, v6, v7, v8, v9])) = h at *
  have L : zi_N G h0 h a [(l4, ze_L G), (l3, ze_L G), (l2, ze_L G), (l1, ze_L G), (l0, ze_L G)] := L
  intro l5 hn
  have hal : a ≠ l5 := fun z => by have := hn.1; rw [← z, ha] at this; cases this
  refine za_call (mc' := 0) (ms' := 0) (by omega) (by omega) (j_init F (za_up_s _ _ _) _ ?_)
  rw [za_upup]
  have hb := (za_up_n h (.inr (0, [.int (nI 0), .ref G.t, .int (nI 0)])) hal).trans ha
  simp only [za_lv_0, za_lv_s, za_isI_i, za_rf_r, za_rf_n, za_rf_v, za_ck_r, za_isC_eq, zs_f, zs_d, zs_iconst, zs_bipush, zs_sipush, zs_lconst, zs_null, zs_iload_n, zs_iload, zs_aload_n, zs_aload, za_iv_i, zs_iinc, zs_istore_n, zs_istore, zs_astore_n, zs_astore, zs_iadd, zs_isub, zs_imul, zs_iand, zs_ior, zs_ixor, zs_ishl, zs_ishr, zs_idiv, zs_i2l, zs_lcmp, zs_dup, zs_dup_x1, zs_dup2, zs_pop, zs_goto, zs_icmp, zs_ifc, zs_nonnull, zs_acmp_eq, zs_acmp_ne, za_sw_s, zs_switch, za_iaload_s, zs_iaload, za_baload_s, zs_baload, za_laload_s, zs_laload, za_aaload_s, zs_aaload, za_iastore_s, zs_iastore, za_bastore_s, zs_bastore, za_lastore_s, zs_lastore, za_aasN_s, zs_aastoreN, za_aas_s, zs_aastore, za_alg_s, za_alg_n, zs_alen, za_gf_s, za_vl_0, za_vl_s, zs_getfield, za_pf_s, zs_putfield, za_nw_s, za_nw_t, za_tx_1, za_tx_2, zs_th, zs_new, zs_newarray, za_cx_s, zs_checkcast, za_vB_s, za_vA_s, za_sX_s, za_sN_s, za_sA_5, za_sA_6, za_sA_1, za_sA_3, za_oB_s, za_iA_2, za_iA_4, zs_invokevirtual, zs_invokestatic, zs_invokespecial, zs_ireturn, zs_return, zs_areturn, zs_areturnA, za_ex0, za_go_eq, za_fit_i, za_fit_b, za_fit_b0, za_fit_b1, za_fit_r, za_fit_n, za_fit_a, za_up_s, za_upup, za_fn_0, za_fn_1, za_fn_2, za_fn_3, za_cd_eq, za_cd_ne, za_cd_lt, za_cd_ge, za_cd_gt, za_cd_le, za_cat_i, za_cat_r, za_cat_n, zb_n0, zb_n1, zb_narrow, zn_narrow, Option.toList_some, Option.toList_none, List.set_cons_zero, List.set_cons_succ, List.length_cons, List.length_nil, List.take_succ_cons, List.take_zero, List.drop_succ_cons, List.drop_zero, List.reverse_cons, List.reverse_nil, List.nil_append, List.cons_append, List.map_cons, List.map_nil, List.replicate_succ, List.replicate_zero, true_and, and_true, true_or, or_true, false_or, or_false, eq_self, not_true_eq_false, not_false_eq_true, false_implies, true_implies, implies_true, and_self, Nat.zero_add, Nat.add_zero, Nat.le_refl, Nat.zero_le, Nat.reduceEqDiff, if_true, if_false, za_t.eq_1, za_t0.eq_1, Int.cast_ofNat_Int, Int.reduceAdd, Int.reduceToNat, Int.reduceLE, Int.reduceNeg, Nat.reduceAdd, Nat.reduceSub, Nat.reduceBEq, Nat.reduceLT, Nat.reduceLeDiff, ↓reduceIte, Bool.false_eq_true, Bool.or_false, Bool.or_true, Bool.false_or, Bool.true_or, decide_true, decide_false, ge_iff_le, gt_iff_lt, dX7_init_0, dX7_init_1, dX7_init_4, dX7_init_5, dX7_init_8, dX7_init_9, dX7_init_12, dX7_init_15, dX7_init_16, dX7_init_19, dX7_init_20, dX7_init_23, dX7_init_26, dX7_init_27, dX7_init_30, dX7_init_31, dX7_init_34, dX7_init_37, dX7_init_38, dX7_init_41, dX7_init_42, dX7_init_45, dX7_init_48, dX7_init_49, dX7_init_52, dX7_init_53, dX7_init_56, dX7_init_59, dX7_init_60, dX7_init_63, dX7_init_64, dX7_init_67, dX7_init_70, dX7_init_71, dX7_init_72, dX7_init_75, dX7_init_76, dX7_init_77, dX7_init_80, dX7_init_81, dX7_init_82, dX7_init_85, dX7_init_86, dX7_init_87, dX7_init_90, uX7_m1, uX7_n7, uX7_m9, uX7_f10, uX7_f16, uX7_f19, uX7_f22, uX7_f25, uX7_f28, uX7_f31, uX7_f35, uX7_f38, uX7_f41, zi_i0, hb]
  exact q _ l0 l1 l2 l3 l4 l5 (za_up_s _ _ _) (zi_cons (e := ze_L G) L ha hn)
/-- the model's rows among the first n fields -/
def zrk : Nat → List Nat
  | 0 => []
  | n + 1 => if zms n = true then zrk n else n :: zrk n
theorem zrk_m {k : Nat} : ∀ {n : Nat}, k ∈ zrk n ↔ k < n ∧ zms k = false
  | 0 => ⟨fun y => absurd y List.not_mem_nil, fun y => absurd y.1 (Nat.not_lt_zero _)⟩
  | n + 1 => by
    unfold zrk
    by_cases z : zms n = true
    · rw [if_pos z, zrk_m]
      refine ⟨fun y => ⟨by omega, y.2⟩, fun y => ⟨?_, y.2⟩⟩
      have : k ≠ n := fun x => by rw [x, z] at y; cases y.2
      omega
    · rw [if_neg z, List.mem_cons, zrk_m]
      refine ⟨fun y => ?_, fun y => ?_⟩
      · rcases y with y | y
        · rw [y]; exact ⟨by omega, (Bool.not_eq_true _).mp z⟩
        · exact ⟨by omega, y.2⟩
      · by_cases x : k = n
        · exact Or.inl x
        · exact Or.inr ⟨by omega, y.2⟩
/-- all the model's numbers are nought -/
def zT0 : zT := (fun _ _ => nI 0, fun _ => 0)
/-- the model in the making: the rows among the first n fields are there -/
def zi_R (G : za_G) (h0 h : za_H) (a : Nat) (f : Nat → Value) (n : Nat) : Prop := ∃ ρ : Nat → Nat, zi_N G h0 h a ((zrk n).map (fun k => (ρ k, zar zT0 k))) ∧ h a = some (.inr (9, (List.range 50).map (fun k => if k < n ∧ zms k = false then .ref (ρ k) else f k)))
theorem zi_sk {G : za_G} {h0 h : za_H} {a : Nat} {f : Nat → Value} {n : Nat} (q : zi_R G h0 h a f n) (hs : zms n = true) : zi_R G h0 h a f (n + 1) := by
  obtain ⟨ρ, q1, q2⟩ := q
  refine ⟨ρ, by unfold zrk; rw [if_pos hs]; exact q1, ?_⟩
  rw [q2]
  congr 4
  funext k
  by_cases z : k = n
  · subst z; rw [if_neg (fun y => by rw [hs] at y; cases y.2), if_neg (fun y => by rw [hs] at y; cases y.2)]
  · by_cases y : k < n ∧ zms k = false
    · rw [if_pos y, if_pos ⟨by omega, y.2⟩]
    · rw [if_neg y, if_neg (fun x => y ⟨by omega, x.2⟩)]
theorem zi_rw {G : za_G} {h0 h : za_H} {a l : Nat} {f : Nat → Value} {n : Nat} {e : za_E} {fs : List Value} (q : zi_R G h0 h a f n) (hs : zms n = false) (he : e = zar zT0 n) (ha : h a = some (.inr (9, fs))) (hl : za_nn G h l) : zi_R G h0 (za_up (za_up h l e) a (.inr (9, fs.set n (.ref l)))) a f (n + 1) := by
  obtain ⟨ρ, q1, q2⟩ := q
  have hs' : ¬ zms n = true := by rw [hs]; intro y; cases y
  have hρ : ∀ k, k ∈ zrk n → (if k = n then l else ρ k) = ρ k := fun k hk => by
    have := (zrk_m.mp hk).1
    rw [if_neg (by omega)]
  refine ⟨fun k => if k = n then l else ρ k, ?_, ?_⟩
  · have e2 : (zrk (n + 1)).map (fun k => ((if k = n then l else ρ k), zar zT0 k)) = (l, e) :: (zrk n).map (fun k => (ρ k, zar zT0 k)) := by
      show (if zms n = true then zrk n else n :: zrk n).map _ = _
      rw [if_neg hs', List.map_cons, if_pos rfl, he]
      congr 1
      exact List.map_congr_left (fun k hk => by rw [hρ k hk])
    rw [e2]
    exact zi_cons q1 ha hl
  · rw [za_up_s]
    rw [ha] at q2
    have q2 : fs = _ := congrArg Prod.snd (Sum.inr.inj (Option.some.inj q2))
    rw [q2]
    congr 3
    refine List.ext_getElem (by simp) (fun k h1 h2 => ?_)
    rw [List.getElem_set]
    by_cases z : n = k
    · subst z; rw [if_pos rfl]; simp [hs]
    · rw [if_neg z]
      simp only [List.getElem_map, List.getElem_range]
      by_cases y : k < n ∧ zms k = false
      · rw [if_pos y, if_pos ⟨by omega, y.2⟩, if_neg (fun x => z x.symm)]
      · rw [if_neg y, if_neg (fun x => y ⟨by omega, x.2⟩)]
theorem zi_at {G : za_G} {h0 h : za_H} {a : Nat} {f : Nat → Value} {n : Nat} (q : zi_R G h0 h a f n) : ∃ fs, h a = some (.inr (9, fs)) ∧ fs.length = 50 := by
  obtain ⟨ρ, q1, q2⟩ := q
  exact ⟨_, q2, by rw [List.length_map, List.length_range]⟩
theorem zi_bg (G : za_G) {h : za_H} {a : Nat} {f : Nat → Value} (ha : h a = some (.inr (9, (List.range 50).map f))) : zi_R G h h a f 0 := by
  refine ⟨fun _ => 0, zi_nil (fun b _ => rfl), ?_⟩
  rw [ha]
  congr 4
theorem wl_119 : Jvm.Cond.constant "FeedTowerModel" 119 (nI 600000) ∈ lw_tbl := by decide +kernel
end ZSK
