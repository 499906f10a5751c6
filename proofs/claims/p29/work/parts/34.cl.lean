/-! THE CLASS (12): pass -/
/-- of the first n items those of the hour t -/
def zeq (S : zS) (t : Nat) : Nat → Nat
  | 0 => 0
  | n + 1 => zeq S t n + (if S 36 n 0 = t then 1 else 0)
/-- those of an hour after lo, to hi -/
def zbt (S : zS) (lo hi : Nat) : Nat → Nat
  | 0 => 0
  | n + 1 => zbt S lo hi n + (if lo < S 36 n 0 ∧ S 36 n 0 ≤ hi then 1 else 0)
theorem zbt_le (S : zS) (lo hi n : Nat) : zbt S lo hi n ≤ n := by
  induction n with
  | zero => exact Nat.le_refl _
  | succ n ih => unfold zbt; split <;> omega
theorem zbt_0 (S : zS) (lo n : Nat) : zbt S lo lo n = 0 := by
  induction n with
  | zero => rfl
  | succ n ih => unfold zbt; rw [ih, if_neg (by omega)]
theorem zbt_s (S : zS) {lo hi : Nat} (h : lo ≤ hi) (n : Nat) : zbt S lo (hi + 1) n = zbt S lo hi n + zeq S (hi + 1) n := by
  induction n with
  | zero => rfl
  | succ n ih =>
    unfold zbt zeq
    rw [ih]
    by_cases h1 : S 36 n 0 = hi + 1
    · rw [if_pos (by omega), if_neg (by omega), if_pos h1]; omega
    · rw [if_neg h1]
      by_cases h2 : lo < S 36 n 0 ∧ S 36 n 0 ≤ hi
      · rw [if_pos (by omega), if_pos h2]; omega
      · rw [if_neg (by omega), if_neg h2]; omega
theorem zeq_m (S : zS) (t n k : Nat) : zeq S t n ≤ zeq S t (n + k) := by
  induction k with
  | zero => exact Nat.le_refl _
  | succ k ih => show _ ≤ zeq S t (n + k) + _; omega
theorem zeq_o {S S' : zS} (h : S' 36 = S 36) (t n : Nat) : zeq S' t n = zeq S t n := by
  induction n with
  | zero => rfl
  | succ n ih => unfold zeq; rw [ih, h]
/-- the changes' row over m addings: capacity, cost -/
def zca (n cap : Nat) : Nat → Nat
  | 0 => cap
  | m + 1 => zcapn (n + m) (zca n cap m)
def zgr (n cap : Nat) : Nat → Nat
  | 0 => 0
  | m + 1 => zgr n cap m + (if n + m = zca n cap m then zcap (n + m) else 0)
theorem zgr_c (n cap m : Nat) : zgr n cap m + 4 * cap ≤ 4 * zca n cap m := by
  induction m with
  | zero => show 0 + 4 * cap ≤ 4 * cap; omega
  | succ m ih =>
    show zgr n cap m + (if n + m = zca n cap m then zcap (n + m) else 0) + 4 * cap ≤ 4 * (if n + m = zca n cap m then zcap (n + m) else zca n cap m)
    by_cases e : n + m = zca n cap m
    · rw [if_pos e, if_pos e]
      have := zcap_c (n + m)
      omega
    · rw [if_neg e, if_neg e]; omega
theorem zca_b {n cap m : Nat} (h : n + m ≤ 1000) (hc : cap ≤ 2000) : zca n cap m ≤ 2000 := by
  induction m with
  | zero => exact hc
  | succ m ih =>
    have ih := ih (by omega)
    unfold zca zcapn
    split
    · exact (zcap_b (by omega)).2
    · exact ih
theorem zgr_m (n cap m k : Nat) : zgr n cap m ≤ zgr n cap (m + k) := by
  induction k with
  | zero => exact Nat.le_refl _
  | succ k ih => show _ ≤ zgr n cap (m + k) + _; omega
/-- the first n items of this hour are changes -/
def zrl (S : zS) : Nat → zS
  | 0 => S
  | n + 1 => if S 36 n 0 = S 0 0 0 then zchg (zrl S n) n else zrl S n
theorem zchg_o (S : zS) (i : Nat) {f : Nat} (h : f ≠ 20) (h' : f ≠ 11) : zchg S i f = S f := (zup_o _ h').trans (zup_o _ h)
theorem zchg_11 (S : zS) (i : Nat) : zchg S i 11 0 0 = S 11 0 0 + 1 := zup_s _ _ _ _ _
theorem zrl_o (S : zS) (n : Nat) {f : Nat} (h : f ≠ 20) (h' : f ≠ 11) : zrl S n f = S f := by
  induction n with
  | zero => rfl
  | succ n ih =>
    unfold zrl
    split
    · rw [zchg_o _ _ h h', ih]
    · exact ih
theorem zrl_11 (S : zS) (n : Nat) : zrl S n 11 0 0 = S 11 0 0 + zeq S (S 0 0 0) n := by
  induction n with
  | zero => rfl
  | succ n ih =>
    unfold zrl zeq
    split
    · rw [zchg_11, ih]; omega
    · rw [ih]; omega
theorem zrl_H {S : zS} (h : zH S) (n : Nat) (hn : n < 1048576) (h11 : S 11 0 0 + zeq S (S 0 0 0) n < 1048576) : zH (zrl S n) := by
  induction n with
  | zero => exact h
  | succ n ih =>
    have hm : zeq S (S 0 0 0) (n + 1) = zeq S (S 0 0 0) n + (if S 36 n 0 = S 0 0 0 then 1 else 0) := rfl
    unfold zrl
    split
    · rename_i e
      rw [if_pos e] at hm
      have ih := ih (by omega) (by omega)
      refine fun f' i' j' => ?_
      have h2 := ih f' i' j'
      have h3 := zrl_11 S n
      unfold zchg zup
      split
      · omega
      · split
        · omega
        · exact h2
    · rename_i e
      rw [if_neg e] at hm
      exact ih (by omega) (by omega)
section ZCL
variable {G : za_G} {A : zA} {B : zB} {S : zS} {T : zT} {r0 : za_H}
theorem m_release (F : za_F G) (I : zI G A B S r0) (hb : zH S) (hi24 : S 10 0 0 ≤ 24) (hn : S 11 0 0 + zeq S (S 0 0 0) (S 10 0 0) ≤ 1000) (K : za_O → za_H → Prop)
    (q : ∀ A' B' r0', zX A B A' B' → zI G A' B' (zrl S (S 10 0 0)) r0' → B'.1 8 11 0 = zca (S 11 0 0) (B.1 8 11 0) (zeq S (S 0 0 0) (S 10 0 0)) → K (.inl none) (zmk A' B' (zrl S (S 10 0 0)) T r0')) : za_P G mX7_releaseItemsOfThisHour [.ref (A.1 (0, 0, 0))] (zmk A B S T r0) (zeq S (S 0 0 0) (S 10 0 0)) (zgr (S 11 0 0) (B.1 8 11 0) (zeq S (S 0 0 0) (S 10 0 0))) K := by
  refine za_m (y := yX7_releaseItemsOfThisHour) (cc := cX7_releaseItemsOfThisHour) (nL := 3) (ret := none) (hh := []) (fr := 7) (lk := lkX7) (hx := []) (ini := false) (cuts := fun p => p == 2) F okX7 trivial (by decide +kernel) (by decide +kernel) (Nat.le_of_ble_eq_true rfl) (by simp [Value.category]) (fun w hw => ?_)
  have loop : ∀ k j (u : Option Value) A' B' r0', j + k = S 10 0 0 → zX A B A' B' → zI G A' B' (zrl S j) r0' → B'.1 8 11 0 = zca (S 11 0 0) (B.1 8 11 0) (zeq S (S 0 0 0) j) → w 2 [some (.ref (A.1 (0, 0, 0))), some (.int (nI j)), u] [] (zmk A' B' (zrl S j) T r0') (zeq S (S 0 0 0) j) (zgr (S 11 0 0) (B.1 8 11 0) (zeq S (S 0 0 0) j)) := by
    intro k
    induction k with
    | zero =>
      intro j u A' B' r0' hj X' I' hc
      have J' := I'.1
      have hr := J'.r.1 10 (by omega) (by omega)
      have hl := J'.l (k := 10) (i := 0) rfl
      have e10 : zrl S j 10 = S 10 := zrl_o S j (by omega) (by omega)
      rw [← (X'.1 (0, 0, 0) (Or.inl rfl)).1]
      refine hw 60 _ _ _ _ _ _ ?_
      simp only [za_lv_0, za_lv_s, za_isI_i, za_rf_r, za_rf_n, za_rf_v, za_ck_r, za_isC_eq, zs_f, zs_d, zs_iconst, zs_bipush, zs_sipush, zs_lconst, zs_null, zs_iload_n, zs_iload, zs_aload_n, zs_aload, za_iv_i, zs_iinc, zs_istore_n, zs_istore, zs_astore_n, zs_astore, zs_iadd, zs_isub, zs_imul, zs_iand, zs_ior, zs_ixor, zs_ishl, zs_ishr, zs_idiv, zs_irem, zs_lshl, zs_lshr, zs_land, zs_lor, zs_lstore, za_lg_0, za_lg_s, za_ll_s, za_lc_s, zs_lload_n, zs_lload, zs_ldc, zs_i2l, zs_lcmp, zs_dup, zs_dup_x1, zs_dup2, zs_pop, zs_goto, zs_icmp, zs_ifc, zs_nonnull, zs_acmp_eq, zs_acmp_ne, za_sw_s, zs_switch, za_iaload_s, zs_iaload, za_baload_s, zs_baload, za_laload_s, zs_laload, za_aaload_s, zs_aaload, za_iastore_s, zs_iastore, za_bastore_s, zs_bastore, za_lastore_s, zs_lastore, za_aasN_s, zs_aastoreN, za_aas_s, zs_aastore, za_alg_s, za_alg_n, zs_alen, za_gf_s, za_vl_0, za_vl_s, zs_getfield, za_pf_s, zs_putfield, za_nw_s, za_nw_t, za_tx_1, za_tx_2, zs_th, zs_new, zs_newarray, za_cx_s, zs_checkcast, za_vB_s, za_vA_s, za_sX_s, za_sN_s, za_sA_5, za_sA_6, za_sA_1, za_sA_3, za_oB_s, za_iA_2, za_iA_4, zs_invokevirtual, zs_invokestatic, zs_invokespecial, zs_ireturn, zs_return, zs_areturn, zs_areturnA, za_ex0, za_go_eq, za_fit_i, za_fit_b, za_fit_b0, za_fit_b1, za_fit_r, za_fit_n, za_fit_a, za_up_s, za_upup, za_fn_0, za_fn_1, za_fn_2, za_fn_3, za_cd_eq, za_cd_ne, za_cd_lt, za_cd_ge, za_cd_gt, za_cd_le, za_cat_i, za_cat_r, za_cat_n, zb_n0, zb_n1, zb_narrow, zn_narrow, Option.toList_some, Option.toList_none, List.set_cons_zero, List.set_cons_succ, List.length_cons, List.length_nil, List.take_succ_cons, List.take_zero, List.drop_succ_cons, List.drop_zero, List.reverse_cons, List.reverse_nil, List.nil_append, List.cons_append, List.map_cons, List.map_nil, List.replicate_succ, List.replicate_zero, true_and, and_true, true_or, or_true, false_or, or_false, eq_self, not_true_eq_false, not_false_eq_true, false_implies, true_implies, implies_true, and_self, Nat.zero_add, Nat.add_zero, Nat.le_refl, Nat.zero_le, Nat.reduceEqDiff, if_true, if_false, za_t.eq_1, za_t0.eq_1, Int.cast_ofNat_Int, Int.reduceAdd, Int.reduceToNat, Int.reduceLE, Int.reduceNeg, Nat.reduceAdd, Nat.reduceSub, Nat.reduceBEq, Nat.reduceLT, Nat.reduceLeDiff, ↓reduceIte, Bool.false_eq_true, Bool.or_false, Bool.or_true, Bool.false_or, Bool.true_or, decide_true, decide_false, ge_iff_le, gt_iff_lt, dX7_releaseItemsOfThisHour_0, dX7_releaseItemsOfThisHour_1, dX7_releaseItemsOfThisHour_2, dX7_releaseItemsOfThisHour_3, dX7_releaseItemsOfThisHour_4, dX7_releaseItemsOfThisHour_7, dX7_releaseItemsOfThisHour_10, dX7_releaseItemsOfThisHour_13, dX7_releaseItemsOfThisHour_14, dX7_releaseItemsOfThisHour_17, dX7_releaseItemsOfThisHour_18, dX7_releaseItemsOfThisHour_21, dX7_releaseItemsOfThisHour_24, dX7_releaseItemsOfThisHour_25, dX7_releaseItemsOfThisHour_26, dX7_releaseItemsOfThisHour_29, dX7_releaseItemsOfThisHour_30, dX7_releaseItemsOfThisHour_33, dX7_releaseItemsOfThisHour_36, dX7_releaseItemsOfThisHour_37, dX7_releaseItemsOfThisHour_40, dX7_releaseItemsOfThisHour_41, dX7_releaseItemsOfThisHour_44, dX7_releaseItemsOfThisHour_45, dX7_releaseItemsOfThisHour_48, dX7_releaseItemsOfThisHour_51, uX7_f10, uX7_f16, uX7_f31, uX7_m88, uX7_n94, uX7_c94, uX7_m99, uX7_m140, uX7_f237, zi_i0, zi_i1, (zmk_at J'.x), zc_0, hr, (zmk_at hl.1), zc_10]
      refine za_call (mc' := 0) (ms' := 0) ?_ ?_ (l_size F (by omega) hl _ ?_)
      · rw [show j = S 10 0 0 by omega]; exact Nat.le_refl _
      · rw [show j = S 10 0 0 by omega]; exact Nat.le_refl _
      · simp only [za_lv_0, za_lv_s, za_isI_i, za_rf_r, za_rf_n, za_rf_v, za_ck_r, za_isC_eq, zs_f, zs_d, zs_iconst, zs_bipush, zs_sipush, zs_lconst, zs_null, zs_iload_n, zs_iload, zs_aload_n, zs_aload, za_iv_i, zs_iinc, zs_istore_n, zs_istore, zs_astore_n, zs_astore, zs_iadd, zs_isub, zs_imul, zs_iand, zs_ior, zs_ixor, zs_ishl, zs_ishr, zs_idiv, zs_irem, zs_lshl, zs_lshr, zs_land, zs_lor, zs_lstore, za_lg_0, za_lg_s, za_ll_s, za_lc_s, zs_lload_n, zs_lload, zs_ldc, zs_i2l, zs_lcmp, zs_dup, zs_dup_x1, zs_dup2, zs_pop, zs_goto, zs_icmp, zs_ifc, zs_nonnull, zs_acmp_eq, zs_acmp_ne, za_sw_s, zs_switch, za_iaload_s, zs_iaload, za_baload_s, zs_baload, za_laload_s, zs_laload, za_aaload_s, zs_aaload, za_iastore_s, zs_iastore, za_bastore_s, zs_bastore, za_lastore_s, zs_lastore, za_aasN_s, zs_aastoreN, za_aas_s, zs_aastore, za_alg_s, za_alg_n, zs_alen, za_gf_s, za_vl_0, za_vl_s, zs_getfield, za_pf_s, zs_putfield, za_nw_s, za_nw_t, za_tx_1, za_tx_2, zs_th, zs_new, zs_newarray, za_cx_s, zs_checkcast, za_vB_s, za_vA_s, za_sX_s, za_sN_s, za_sA_5, za_sA_6, za_sA_1, za_sA_3, za_oB_s, za_iA_2, za_iA_4, zs_invokevirtual, zs_invokestatic, zs_invokespecial, zs_ireturn, zs_return, zs_areturn, zs_areturnA, za_ex0, za_go_eq, za_fit_i, za_fit_b, za_fit_b0, za_fit_b1, za_fit_r, za_fit_n, za_fit_a, za_up_s, za_upup, za_fn_0, za_fn_1, za_fn_2, za_fn_3, za_cd_eq, za_cd_ne, za_cd_lt, za_cd_ge, za_cd_gt, za_cd_le, za_cat_i, za_cat_r, za_cat_n, zb_n0, zb_n1, zb_narrow, zn_narrow, Option.toList_some, Option.toList_none, List.set_cons_zero, List.set_cons_succ, List.length_cons, List.length_nil, List.take_succ_cons, List.take_zero, List.drop_succ_cons, List.drop_zero, List.reverse_cons, List.reverse_nil, List.nil_append, List.cons_append, List.map_cons, List.map_nil, List.replicate_succ, List.replicate_zero, true_and, and_true, true_or, or_true, false_or, or_false, eq_self, not_true_eq_false, not_false_eq_true, false_implies, true_implies, implies_true, and_self, Nat.zero_add, Nat.add_zero, Nat.le_refl, Nat.zero_le, Nat.reduceEqDiff, if_true, if_false, za_t.eq_1, za_t0.eq_1, Int.cast_ofNat_Int, Int.reduceAdd, Int.reduceToNat, Int.reduceLE, Int.reduceNeg, Nat.reduceAdd, Nat.reduceSub, Nat.reduceBEq, Nat.reduceLT, Nat.reduceLeDiff, ↓reduceIte, Bool.false_eq_true, Bool.or_false, Bool.or_true, Bool.false_or, Bool.true_or, decide_true, decide_false, ge_iff_le, gt_iff_lt, dX7_releaseItemsOfThisHour_0, dX7_releaseItemsOfThisHour_1, dX7_releaseItemsOfThisHour_2, dX7_releaseItemsOfThisHour_3, dX7_releaseItemsOfThisHour_4, dX7_releaseItemsOfThisHour_7, dX7_releaseItemsOfThisHour_10, dX7_releaseItemsOfThisHour_13, dX7_releaseItemsOfThisHour_14, dX7_releaseItemsOfThisHour_17, dX7_releaseItemsOfThisHour_18, dX7_releaseItemsOfThisHour_21, dX7_releaseItemsOfThisHour_24, dX7_releaseItemsOfThisHour_25, dX7_releaseItemsOfThisHour_26, dX7_releaseItemsOfThisHour_29, dX7_releaseItemsOfThisHour_30, dX7_releaseItemsOfThisHour_33, dX7_releaseItemsOfThisHour_36, dX7_releaseItemsOfThisHour_37, dX7_releaseItemsOfThisHour_40, dX7_releaseItemsOfThisHour_41, dX7_releaseItemsOfThisHour_44, dX7_releaseItemsOfThisHour_45, dX7_releaseItemsOfThisHour_48, dX7_releaseItemsOfThisHour_51, uX7_f10, uX7_f16, uX7_f31, uX7_m88, uX7_n94, uX7_c94, uX7_m99, uX7_m140, uX7_f237, zi_i0, zi_i1]
        have hj' : j = S 10 0 0 := by omega
        rw [e10, hj']
        rw [hj'] at I' hc
        exact ⟨fun _ => ⟨Nat.le_refl _, Nat.le_refl _, q A' B' r0' X' I' hc⟩, fun z => absurd (nI_le (Nat.le_refl _) (by omega)) z⟩
    | succ k ih =>
      intro j u A' B' r0' hj X' I' hc
      have J' := I'.1
      have hr := J'.r.1 10 (by omega) (by omega)
      have hl := J'.l (k := 10) (i := 0) rfl
      have hr1 := J'.r.1 11 (by omega) (by omega)
      have hl1 := J'.l (k := 11) (i := 0) rfl
      have e10 : zrl S j 10 = S 10 := zrl_o S j (by omega) (by omega)
      have e36 : zrl S j 36 = S 36 := zrl_o S j (by omega) (by omega)
      have e0 : zrl S j 0 = S 0 := zrl_o S j (by omega) (by omega)
      have e11 := zrl_11 S j
      have hv := J'.v (k := 2) (i := j) (j := 0) ⟨by rw [e10]; omega, rfl⟩
      have h36 := hb 36 j 0
      have h0 := hb 0 0 0
      have hm1 := zeq_m S (S 0 0 0) j (k + 1)
      have hm2 := zeq_m S (S 0 0 0) (j + 1) k
      rw [show j + (k + 1) = S 10 0 0 by omega] at hm1
      rw [show j + 1 + k = S 10 0 0 by omega] at hm2
      have hg1 : zgr (S 11 0 0) (B.1 8 11 0) (zeq S (S 0 0 0) j) ≤ zgr (S 11 0 0) (B.1 8 11 0) (zeq S (S 0 0 0) (S 10 0 0)) := by
        have := zgr_m (S 11 0 0) (B.1 8 11 0) (zeq S (S 0 0 0) j) (zeq S (S 0 0 0) (S 10 0 0) - zeq S (S 0 0 0) j)
        rw [Nat.add_sub_cancel' hm1] at this
        exact this
      have hg2 : zgr (S 11 0 0) (B.1 8 11 0) (zeq S (S 0 0 0) (j + 1)) ≤ zgr (S 11 0 0) (B.1 8 11 0) (zeq S (S 0 0 0) (S 10 0 0)) := by
        have := zgr_m (S 11 0 0) (B.1 8 11 0) (zeq S (S 0 0 0) (j + 1)) (zeq S (S 0 0 0) (S 10 0 0) - zeq S (S 0 0 0) (j + 1))
        rw [Nat.add_sub_cancel' hm2] at this
        exact this
      have ih' := fun u => ih (j + 1) u
      rw [← (X'.1 (0, 0, 0) (Or.inl rfl)).1]
      refine hw 60 _ _ _ _ _ _ ?_
      simp only [za_lv_0, za_lv_s, za_isI_i, za_rf_r, za_rf_n, za_rf_v, za_ck_r, za_isC_eq, zs_f, zs_d, zs_iconst, zs_bipush, zs_sipush, zs_lconst, zs_null, zs_iload_n, zs_iload, zs_aload_n, zs_aload, za_iv_i, zs_iinc, zs_istore_n, zs_istore, zs_astore_n, zs_astore, zs_iadd, zs_isub, zs_imul, zs_iand, zs_ior, zs_ixor, zs_ishl, zs_ishr, zs_idiv, zs_irem, zs_lshl, zs_lshr, zs_land, zs_lor, zs_lstore, za_lg_0, za_lg_s, za_ll_s, za_lc_s, zs_lload_n, zs_lload, zs_ldc, zs_i2l, zs_lcmp, zs_dup, zs_dup_x1, zs_dup2, zs_pop, zs_goto, zs_icmp, zs_ifc, zs_nonnull, zs_acmp_eq, zs_acmp_ne, za_sw_s, zs_switch, za_iaload_s, zs_iaload, za_baload_s, zs_baload, za_laload_s, zs_laload, za_aaload_s, zs_aaload, za_iastore_s, zs_iastore, za_bastore_s, zs_bastore, za_lastore_s, zs_lastore, za_aasN_s, zs_aastoreN, za_aas_s, zs_aastore, za_alg_s, za_alg_n, zs_alen, za_gf_s, za_vl_0, za_vl_s, zs_getfield, za_pf_s, zs_putfield, za_nw_s, za_nw_t, za_tx_1, za_tx_2, zs_th, zs_new, zs_newarray, za_cx_s, zs_checkcast, za_vB_s, za_vA_s, za_sX_s, za_sN_s, za_sA_5, za_sA_6, za_sA_1, za_sA_3, za_oB_s, za_iA_2, za_iA_4, zs_invokevirtual, zs_invokestatic, zs_invokespecial, zs_ireturn, zs_return, zs_areturn, zs_areturnA, za_ex0, za_go_eq, za_fit_i, za_fit_b, za_fit_b0, za_fit_b1, za_fit_r, za_fit_n, za_fit_a, za_up_s, za_upup, za_fn_0, za_fn_1, za_fn_2, za_fn_3, za_cd_eq, za_cd_ne, za_cd_lt, za_cd_ge, za_cd_gt, za_cd_le, za_cat_i, za_cat_r, za_cat_n, zb_n0, zb_n1, zb_narrow, zn_narrow, Option.toList_some, Option.toList_none, List.set_cons_zero, List.set_cons_succ, List.length_cons, List.length_nil, List.take_succ_cons, List.take_zero, List.drop_succ_cons, List.drop_zero, List.reverse_cons, List.reverse_nil, List.nil_append, List.cons_append, List.map_cons, List.map_nil, List.replicate_succ, List.replicate_zero, true_and, and_true, true_or, or_true, false_or, or_false, eq_self, not_true_eq_false, not_false_eq_true, false_implies, true_implies, implies_true, and_self, Nat.zero_add, Nat.add_zero, Nat.le_refl, Nat.zero_le, Nat.reduceEqDiff, if_true, if_false, za_t.eq_1, za_t0.eq_1, Int.cast_ofNat_Int, Int.reduceAdd, Int.reduceToNat, Int.reduceLE, Int.reduceNeg, Nat.reduceAdd, Nat.reduceSub, Nat.reduceBEq, Nat.reduceLT, Nat.reduceLeDiff, ↓reduceIte, Bool.false_eq_true, Bool.or_false, Bool.or_true, Bool.false_or, Bool.true_or, decide_true, decide_false, ge_iff_le, gt_iff_lt, dX7_releaseItemsOfThisHour_0, dX7_releaseItemsOfThisHour_1, dX7_releaseItemsOfThisHour_2, dX7_releaseItemsOfThisHour_3, dX7_releaseItemsOfThisHour_4, dX7_releaseItemsOfThisHour_7, dX7_releaseItemsOfThisHour_10, dX7_releaseItemsOfThisHour_13, dX7_releaseItemsOfThisHour_14, dX7_releaseItemsOfThisHour_17, dX7_releaseItemsOfThisHour_18, dX7_releaseItemsOfThisHour_21, dX7_releaseItemsOfThisHour_24, dX7_releaseItemsOfThisHour_25, dX7_releaseItemsOfThisHour_26, dX7_releaseItemsOfThisHour_29, dX7_releaseItemsOfThisHour_30, dX7_releaseItemsOfThisHour_33, dX7_releaseItemsOfThisHour_36, dX7_releaseItemsOfThisHour_37, dX7_releaseItemsOfThisHour_40, dX7_releaseItemsOfThisHour_41, dX7_releaseItemsOfThisHour_44, dX7_releaseItemsOfThisHour_45, dX7_releaseItemsOfThisHour_48, dX7_releaseItemsOfThisHour_51, uX7_f10, uX7_f16, uX7_f31, uX7_m88, uX7_n94, uX7_c94, uX7_m99, uX7_m140, uX7_f237, zi_i0, zi_i1, (zmk_at J'.x), zc_0, hr, (zmk_at hl.1), zc_10]
      refine za_call (mc' := 0) (ms' := 0) (by omega) (by omega) (l_size F (by omega) hl _ ?_)
      simp only [za_lv_0, za_lv_s, za_isI_i, za_rf_r, za_rf_n, za_rf_v, za_ck_r, za_isC_eq, zs_f, zs_d, zs_iconst, zs_bipush, zs_sipush, zs_lconst, zs_null, zs_iload_n, zs_iload, zs_aload_n, zs_aload, za_iv_i, zs_iinc, zs_istore_n, zs_istore, zs_astore_n, zs_astore, zs_iadd, zs_isub, zs_imul, zs_iand, zs_ior, zs_ixor, zs_ishl, zs_ishr, zs_idiv, zs_irem, zs_lshl, zs_lshr, zs_land, zs_lor, zs_lstore, za_lg_0, za_lg_s, za_ll_s, za_lc_s, zs_lload_n, zs_lload, zs_ldc, zs_i2l, zs_lcmp, zs_dup, zs_dup_x1, zs_dup2, zs_pop, zs_goto, zs_icmp, zs_ifc, zs_nonnull, zs_acmp_eq, zs_acmp_ne, za_sw_s, zs_switch, za_iaload_s, zs_iaload, za_baload_s, zs_baload, za_laload_s, zs_laload, za_aaload_s, zs_aaload, za_iastore_s, zs_iastore, za_bastore_s, zs_bastore, za_lastore_s, zs_lastore, za_aasN_s, zs_aastoreN, za_aas_s, zs_aastore, za_alg_s, za_alg_n, zs_alen, za_gf_s, za_vl_0, za_vl_s, zs_getfield, za_pf_s, zs_putfield, za_nw_s, za_nw_t, za_tx_1, za_tx_2, zs_th, zs_new, zs_newarray, za_cx_s, zs_checkcast, za_vB_s, za_vA_s, za_sX_s, za_sN_s, za_sA_5, za_sA_6, za_sA_1, za_sA_3, za_oB_s, za_iA_2, za_iA_4, zs_invokevirtual, zs_invokestatic, zs_invokespecial, zs_ireturn, zs_return, zs_areturn, zs_areturnA, za_ex0, za_go_eq, za_fit_i, za_fit_b, za_fit_b0, za_fit_b1, za_fit_r, za_fit_n, za_fit_a, za_up_s, za_upup, za_fn_0, za_fn_1, za_fn_2, za_fn_3, za_cd_eq, za_cd_ne, za_cd_lt, za_cd_ge, za_cd_gt, za_cd_le, za_cat_i, za_cat_r, za_cat_n, zb_n0, zb_n1, zb_narrow, zn_narrow, Option.toList_some, Option.toList_none, List.set_cons_zero, List.set_cons_succ, List.length_cons, List.length_nil, List.take_succ_cons, List.take_zero, List.drop_succ_cons, List.drop_zero, List.reverse_cons, List.reverse_nil, List.nil_append, List.cons_append, List.map_cons, List.map_nil, List.replicate_succ, List.replicate_zero, true_and, and_true, true_or, or_true, false_or, or_false, eq_self, not_true_eq_false, not_false_eq_true, false_implies, true_implies, implies_true, and_self, Nat.zero_add, Nat.add_zero, Nat.le_refl, Nat.zero_le, Nat.reduceEqDiff, if_true, if_false, za_t.eq_1, za_t0.eq_1, Int.cast_ofNat_Int, Int.reduceAdd, Int.reduceToNat, Int.reduceLE, Int.reduceNeg, Nat.reduceAdd, Nat.reduceSub, Nat.reduceBEq, Nat.reduceLT, Nat.reduceLeDiff, ↓reduceIte, Bool.false_eq_true, Bool.or_false, Bool.or_true, Bool.false_or, Bool.true_or, decide_true, decide_false, ge_iff_le, gt_iff_lt, dX7_releaseItemsOfThisHour_0, dX7_releaseItemsOfThisHour_1, dX7_releaseItemsOfThisHour_2, dX7_releaseItemsOfThisHour_3, dX7_releaseItemsOfThisHour_4, dX7_releaseItemsOfThisHour_7, dX7_releaseItemsOfThisHour_10, dX7_releaseItemsOfThisHour_13, dX7_releaseItemsOfThisHour_14, dX7_releaseItemsOfThisHour_17, dX7_releaseItemsOfThisHour_18, dX7_releaseItemsOfThisHour_21, dX7_releaseItemsOfThisHour_24, dX7_releaseItemsOfThisHour_25, dX7_releaseItemsOfThisHour_26, dX7_releaseItemsOfThisHour_29, dX7_releaseItemsOfThisHour_30, dX7_releaseItemsOfThisHour_33, dX7_releaseItemsOfThisHour_36, dX7_releaseItemsOfThisHour_37, dX7_releaseItemsOfThisHour_40, dX7_releaseItemsOfThisHour_41, dX7_releaseItemsOfThisHour_44, dX7_releaseItemsOfThisHour_45, dX7_releaseItemsOfThisHour_48, dX7_releaseItemsOfThisHour_51, uX7_f10, uX7_f16, uX7_f31, uX7_m88, uX7_n94, uX7_c94, uX7_m99, uX7_m140, uX7_f237, zi_i0, zi_i1, (zmk_at J'.x), zc_0, hr, (zmk_at hl.1), zc_10]
      rw [e10]
      refine ⟨fun z => absurd z (nI_ge (by omega) (by omega)), fun _ => ?_⟩
      refine za_call (mc' := 0) (ms' := 0) (by omega) (by omega) (l_get F (by omega) hl (j := j) (by rw [e10]; omega) _ ?_)
      simp only [za_lv_0, za_lv_s, za_isI_i, za_rf_r, za_rf_n, za_rf_v, za_ck_r, za_isC_eq, zs_f, zs_d, zs_iconst, zs_bipush, zs_sipush, zs_lconst, zs_null, zs_iload_n, zs_iload, zs_aload_n, zs_aload, za_iv_i, zs_iinc, zs_istore_n, zs_istore, zs_astore_n, zs_astore, zs_iadd, zs_isub, zs_imul, zs_iand, zs_ior, zs_ixor, zs_ishl, zs_ishr, zs_idiv, zs_irem, zs_lshl, zs_lshr, zs_land, zs_lor, zs_lstore, za_lg_0, za_lg_s, za_ll_s, za_lc_s, zs_lload_n, zs_lload, zs_ldc, zs_i2l, zs_lcmp, zs_dup, zs_dup_x1, zs_dup2, zs_pop, zs_goto, zs_icmp, zs_ifc, zs_nonnull, zs_acmp_eq, zs_acmp_ne, za_sw_s, zs_switch, za_iaload_s, zs_iaload, za_baload_s, zs_baload, za_laload_s, zs_laload, za_aaload_s, zs_aaload, za_iastore_s, zs_iastore, za_bastore_s, zs_bastore, za_lastore_s, zs_lastore, za_aasN_s, zs_aastoreN, za_aas_s, zs_aastore, za_alg_s, za_alg_n, zs_alen, za_gf_s, za_vl_0, za_vl_s, zs_getfield, za_pf_s, zs_putfield, za_nw_s, za_nw_t, za_tx_1, za_tx_2, zs_th, zs_new, zs_newarray, za_cx_s, zs_checkcast, za_vB_s, za_vA_s, za_sX_s, za_sN_s, za_sA_5, za_sA_6, za_sA_1, za_sA_3, za_oB_s, za_iA_2, za_iA_4, zs_invokevirtual, zs_invokestatic, zs_invokespecial, zs_ireturn, zs_return, zs_areturn, zs_areturnA, za_ex0, za_go_eq, za_fit_i, za_fit_b, za_fit_b0, za_fit_b1, za_fit_r, za_fit_n, za_fit_a, za_up_s, za_upup, za_fn_0, za_fn_1, za_fn_2, za_fn_3, za_cd_eq, za_cd_ne, za_cd_lt, za_cd_ge, za_cd_gt, za_cd_le, za_cat_i, za_cat_r, za_cat_n, zb_n0, zb_n1, zb_narrow, zn_narrow, Option.toList_some, Option.toList_none, List.set_cons_zero, List.set_cons_succ, List.length_cons, List.length_nil, List.take_succ_cons, List.take_zero, List.drop_succ_cons, List.drop_zero, List.reverse_cons, List.reverse_nil, List.nil_append, List.cons_append, List.map_cons, List.map_nil, List.replicate_succ, List.replicate_zero, true_and, and_true, true_or, or_true, false_or, or_false, eq_self, not_true_eq_false, not_false_eq_true, false_implies, true_implies, implies_true, and_self, Nat.zero_add, Nat.add_zero, Nat.le_refl, Nat.zero_le, Nat.reduceEqDiff, if_true, if_false, za_t.eq_1, za_t0.eq_1, Int.cast_ofNat_Int, Int.reduceAdd, Int.reduceToNat, Int.reduceLE, Int.reduceNeg, Nat.reduceAdd, Nat.reduceSub, Nat.reduceBEq, Nat.reduceLT, Nat.reduceLeDiff, ↓reduceIte, Bool.false_eq_true, Bool.or_false, Bool.or_true, Bool.false_or, Bool.true_or, decide_true, decide_false, ge_iff_le, gt_iff_lt, dX7_releaseItemsOfThisHour_0, dX7_releaseItemsOfThisHour_1, dX7_releaseItemsOfThisHour_2, dX7_releaseItemsOfThisHour_3, dX7_releaseItemsOfThisHour_4, dX7_releaseItemsOfThisHour_7, dX7_releaseItemsOfThisHour_10, dX7_releaseItemsOfThisHour_13, dX7_releaseItemsOfThisHour_14, dX7_releaseItemsOfThisHour_17, dX7_releaseItemsOfThisHour_18, dX7_releaseItemsOfThisHour_21, dX7_releaseItemsOfThisHour_24, dX7_releaseItemsOfThisHour_25, dX7_releaseItemsOfThisHour_26, dX7_releaseItemsOfThisHour_29, dX7_releaseItemsOfThisHour_30, dX7_releaseItemsOfThisHour_33, dX7_releaseItemsOfThisHour_36, dX7_releaseItemsOfThisHour_37, dX7_releaseItemsOfThisHour_40, dX7_releaseItemsOfThisHour_41, dX7_releaseItemsOfThisHour_44, dX7_releaseItemsOfThisHour_45, dX7_releaseItemsOfThisHour_48, dX7_releaseItemsOfThisHour_51, uX7_f10, uX7_f16, uX7_f31, uX7_m88, uX7_n94, uX7_c94, uX7_m99, uX7_m140, uX7_f237, zi_i0, zi_i1, zel, (zmk_at hv), zc_2, (zmk_at J'.x), zc_0, hr1, (zmk_at hl1.1), zc_11, nI_add]
      rw [e36, e0]
      simp (disch := omega) only [zn_eq]
      have ee : zeq S (S 0 0 0) (j + 1) = zeq S (S 0 0 0) j + (if S 36 j 0 = S 0 0 0 then 1 else 0) := rfl
      unfold zrl at ih'
      refine ⟨fun z => ?_, fun z => ?_⟩
      · rw [if_neg z] at ee ih'
        rw [Nat.add_zero] at ee
        rw [ee] at ih'
        rw [(X'.1 (0, 0, 0) (Or.inl rfl)).1]
        exact ih' _ A' B' r0' (by omega) X' I' hc
      · rw [Decidable.not_not] at z
        rw [if_pos z] at ee ih'
        have e1 : zcost B' (zrl S j) 11 0 = (if S 11 0 0 + zeq S (S 0 0 0) j = zca (S 11 0 0) (B.1 8 11 0) (zeq S (S 0 0 0) j) then zcap (S 11 0 0 + zeq S (S 0 0 0) j) else 0) := by
          unfold zcost
          rw [e11, hc]
        have e2 : zgr (S 11 0 0) (B.1 8 11 0) (zeq S (S 0 0 0) (j + 1)) = zgr (S 11 0 0) (B.1 8 11 0) (zeq S (S 0 0 0) j) + zcost B' (zrl S j) 11 0 := by
          rw [ee, e1]
          rfl
        refine za_call (mc' := 1) (ms' := zcost B' (zrl S j) 11 0) (by omega) (by omega) (p_chg F I' (by rw [e10]; omega) (by omega) _ fun A2 B2 r2 X2 I2 hc2 => ?_)
        simp only [za_lv_0, za_lv_s, za_isI_i, za_rf_r, za_rf_n, za_rf_v, za_ck_r, za_isC_eq, zs_f, zs_d, zs_iconst, zs_bipush, zs_sipush, zs_lconst, zs_null, zs_iload_n, zs_iload, zs_aload_n, zs_aload, za_iv_i, zs_iinc, zs_istore_n, zs_istore, zs_astore_n, zs_astore, zs_iadd, zs_isub, zs_imul, zs_iand, zs_ior, zs_ixor, zs_ishl, zs_ishr, zs_idiv, zs_irem, zs_lshl, zs_lshr, zs_land, zs_lor, zs_lstore, za_lg_0, za_lg_s, za_ll_s, za_lc_s, zs_lload_n, zs_lload, zs_ldc, zs_i2l, zs_lcmp, zs_dup, zs_dup_x1, zs_dup2, zs_pop, zs_goto, zs_icmp, zs_ifc, zs_nonnull, zs_acmp_eq, zs_acmp_ne, za_sw_s, zs_switch, za_iaload_s, zs_iaload, za_baload_s, zs_baload, za_laload_s, zs_laload, za_aaload_s, zs_aaload, za_iastore_s, zs_iastore, za_bastore_s, zs_bastore, za_lastore_s, zs_lastore, za_aasN_s, zs_aastoreN, za_aas_s, zs_aastore, za_alg_s, za_alg_n, zs_alen, za_gf_s, za_vl_0, za_vl_s, zs_getfield, za_pf_s, zs_putfield, za_nw_s, za_nw_t, za_tx_1, za_tx_2, zs_th, zs_new, zs_newarray, za_cx_s, zs_checkcast, za_vB_s, za_vA_s, za_sX_s, za_sN_s, za_sA_5, za_sA_6, za_sA_1, za_sA_3, za_oB_s, za_iA_2, za_iA_4, zs_invokevirtual, zs_invokestatic, zs_invokespecial, zs_ireturn, zs_return, zs_areturn, zs_areturnA, za_ex0, za_go_eq, za_fit_i, za_fit_b, za_fit_b0, za_fit_b1, za_fit_r, za_fit_n, za_fit_a, za_up_s, za_upup, za_fn_0, za_fn_1, za_fn_2, za_fn_3, za_cd_eq, za_cd_ne, za_cd_lt, za_cd_ge, za_cd_gt, za_cd_le, za_cat_i, za_cat_r, za_cat_n, zb_n0, zb_n1, zb_narrow, zn_narrow, Option.toList_some, Option.toList_none, List.set_cons_zero, List.set_cons_succ, List.length_cons, List.length_nil, List.take_succ_cons, List.take_zero, List.drop_succ_cons, List.drop_zero, List.reverse_cons, List.reverse_nil, List.nil_append, List.cons_append, List.map_cons, List.map_nil, List.replicate_succ, List.replicate_zero, true_and, and_true, true_or, or_true, false_or, or_false, eq_self, not_true_eq_false, not_false_eq_true, false_implies, true_implies, implies_true, and_self, Nat.zero_add, Nat.add_zero, Nat.le_refl, Nat.zero_le, Nat.reduceEqDiff, if_true, if_false, za_t.eq_1, za_t0.eq_1, Int.cast_ofNat_Int, Int.reduceAdd, Int.reduceToNat, Int.reduceLE, Int.reduceNeg, Nat.reduceAdd, Nat.reduceSub, Nat.reduceBEq, Nat.reduceLT, Nat.reduceLeDiff, ↓reduceIte, Bool.false_eq_true, Bool.or_false, Bool.or_true, Bool.false_or, Bool.true_or, decide_true, decide_false, ge_iff_le, gt_iff_lt, dX7_releaseItemsOfThisHour_0, dX7_releaseItemsOfThisHour_1, dX7_releaseItemsOfThisHour_2, dX7_releaseItemsOfThisHour_3, dX7_releaseItemsOfThisHour_4, dX7_releaseItemsOfThisHour_7, dX7_releaseItemsOfThisHour_10, dX7_releaseItemsOfThisHour_13, dX7_releaseItemsOfThisHour_14, dX7_releaseItemsOfThisHour_17, dX7_releaseItemsOfThisHour_18, dX7_releaseItemsOfThisHour_21, dX7_releaseItemsOfThisHour_24, dX7_releaseItemsOfThisHour_25, dX7_releaseItemsOfThisHour_26, dX7_releaseItemsOfThisHour_29, dX7_releaseItemsOfThisHour_30, dX7_releaseItemsOfThisHour_33, dX7_releaseItemsOfThisHour_36, dX7_releaseItemsOfThisHour_37, dX7_releaseItemsOfThisHour_40, dX7_releaseItemsOfThisHour_41, dX7_releaseItemsOfThisHour_44, dX7_releaseItemsOfThisHour_45, dX7_releaseItemsOfThisHour_48, dX7_releaseItemsOfThisHour_51, uX7_f10, uX7_f16, uX7_f31, uX7_m88, uX7_n94, uX7_c94, uX7_m99, uX7_m140, uX7_f237, zi_i0, zi_i1, nI_add]
        rw [(X'.1 (0, 0, 0) (Or.inl rfl)).1, ← e2, ← ee]
        refine ih' _ A2 B2 r2 (by omega) (X'.tr X2) I2 ?_
        rw [hc2.2, e11, hc, ee]
        rfl
  refine hw 60 _ _ _ _ _ _ ?_
  simp only [za_lv_0, za_lv_s, za_isI_i, za_rf_r, za_rf_n, za_rf_v, za_ck_r, za_isC_eq, zs_f, zs_d, zs_iconst, zs_bipush, zs_sipush, zs_lconst, zs_null, zs_iload_n, zs_iload, zs_aload_n, zs_aload, za_iv_i, zs_iinc, zs_istore_n, zs_istore, zs_astore_n, zs_astore, zs_iadd, zs_isub, zs_imul, zs_iand, zs_ior, zs_ixor, zs_ishl, zs_ishr, zs_idiv, zs_irem, zs_lshl, zs_lshr, zs_land, zs_lor, zs_lstore, za_lg_0, za_lg_s, za_ll_s, za_lc_s, zs_lload_n, zs_lload, zs_ldc, zs_i2l, zs_lcmp, zs_dup, zs_dup_x1, zs_dup2, zs_pop, zs_goto, zs_icmp, zs_ifc, zs_nonnull, zs_acmp_eq, zs_acmp_ne, za_sw_s, zs_switch, za_iaload_s, zs_iaload, za_baload_s, zs_baload, za_laload_s, zs_laload, za_aaload_s, zs_aaload, za_iastore_s, zs_iastore, za_bastore_s, zs_bastore, za_lastore_s, zs_lastore, za_aasN_s, zs_aastoreN, za_aas_s, zs_aastore, za_alg_s, za_alg_n, zs_alen, za_gf_s, za_vl_0, za_vl_s, zs_getfield, za_pf_s, zs_putfield, za_nw_s, za_nw_t, za_tx_1, za_tx_2, zs_th, zs_new, zs_newarray, za_cx_s, zs_checkcast, za_vB_s, za_vA_s, za_sX_s, za_sN_s, za_sA_5, za_sA_6, za_sA_1, za_sA_3, za_oB_s, za_iA_2, za_iA_4, zs_invokevirtual, zs_invokestatic, zs_invokespecial, zs_ireturn, zs_return, zs_areturn, zs_areturnA, za_ex0, za_go_eq, za_fit_i, za_fit_b, za_fit_b0, za_fit_b1, za_fit_r, za_fit_n, za_fit_a, za_up_s, za_upup, za_fn_0, za_fn_1, za_fn_2, za_fn_3, za_cd_eq, za_cd_ne, za_cd_lt, za_cd_ge, za_cd_gt, za_cd_le, za_cat_i, za_cat_r, za_cat_n, zb_n0, zb_n1, zb_narrow, zn_narrow, Option.toList_some, Option.toList_none, List.set_cons_zero, List.set_cons_succ, List.length_cons, List.length_nil, List.take_succ_cons, List.take_zero, List.drop_succ_cons, List.drop_zero, List.reverse_cons, List.reverse_nil, List.nil_append, List.cons_append, List.map_cons, List.map_nil, List.replicate_succ, List.replicate_zero, true_and, and_true, true_or, or_true, false_or, or_false, eq_self, not_true_eq_false, not_false_eq_true, false_implies, true_implies, implies_true, and_self, Nat.zero_add, Nat.add_zero, Nat.le_refl, Nat.zero_le, Nat.reduceEqDiff, if_true, if_false, za_t.eq_1, za_t0.eq_1, Int.cast_ofNat_Int, Int.reduceAdd, Int.reduceToNat, Int.reduceLE, Int.reduceNeg, Nat.reduceAdd, Nat.reduceSub, Nat.reduceBEq, Nat.reduceLT, Nat.reduceLeDiff, ↓reduceIte, Bool.false_eq_true, Bool.or_false, Bool.or_true, Bool.false_or, Bool.true_or, decide_true, decide_false, ge_iff_le, gt_iff_lt, dX7_releaseItemsOfThisHour_0, dX7_releaseItemsOfThisHour_1, dX7_releaseItemsOfThisHour_2, dX7_releaseItemsOfThisHour_3, dX7_releaseItemsOfThisHour_4, dX7_releaseItemsOfThisHour_7, dX7_releaseItemsOfThisHour_10, dX7_releaseItemsOfThisHour_13, dX7_releaseItemsOfThisHour_14, dX7_releaseItemsOfThisHour_17, dX7_releaseItemsOfThisHour_18, dX7_releaseItemsOfThisHour_21, dX7_releaseItemsOfThisHour_24, dX7_releaseItemsOfThisHour_25, dX7_releaseItemsOfThisHour_26, dX7_releaseItemsOfThisHour_29, dX7_releaseItemsOfThisHour_30, dX7_releaseItemsOfThisHour_33, dX7_releaseItemsOfThisHour_36, dX7_releaseItemsOfThisHour_37, dX7_releaseItemsOfThisHour_40, dX7_releaseItemsOfThisHour_41, dX7_releaseItemsOfThisHour_44, dX7_releaseItemsOfThisHour_45, dX7_releaseItemsOfThisHour_48, dX7_releaseItemsOfThisHour_51, uX7_f10, uX7_f16, uX7_f31, uX7_m88, uX7_n94, uX7_c94, uX7_m99, uX7_m140, uX7_f237, zi_i0, zi_i1]
  exact loop (S 10 0 0) 0 _ A B r0 (by omega) (zX.rf A B) I rfl
def zps (S : zS) : Nat → zS
  | 0 => S
  | h + 1 => zrl (zup (zps S h) 0 0 0 (S 0 0 0 + h + 1)) (S 10 0 0)
theorem zps_o (S : zS) (n : Nat) {f : Nat} (h0 : f ≠ 0) (h : f ≠ 20) (h' : f ≠ 11) : zps S n f = S f := by
  induction n with
  | zero => rfl
  | succ n ih => unfold zps; rw [zrl_o _ _ h h', zup_o _ h0, ih]
theorem zps_0 (S : zS) (n : Nat) : zps S n 0 0 0 = S 0 0 0 + n := by
  cases n with
  | zero => rfl
  | succ n => unfold zps; rw [zrl_o _ _ (by omega) (by omega), zup_s]; omega
theorem zps_11 (S : zS) (n : Nat) : zps S n 11 0 0 = S 11 0 0 + zbt S (S 0 0 0) (S 0 0 0 + n) (S 10 0 0) := by
  induction n with
  | zero => rw [Nat.add_zero, zbt_0]; rfl
  | succ n ih =>
    unfold zps
    rw [zrl_11, zup_s, zup_o _ (by omega), ih, ← Nat.add_assoc (S 0 0 0), zbt_s S (by omega), zeq_o (S := S) (by rw [zup_o _ (by omega), zps_o S n (by omega) (by omega) (by omega)])]
    omega
theorem zps_H {S : zS} (h : zH S) (n : Nat) (h0 : S 0 0 0 + n < 1048576) (hi : S 10 0 0 < 1000) (h11 : S 11 0 0 < 10000) : zH (zps S n) := by
  induction n with
  | zero => exact h
  | succ n ih =>
    have e := zps_11 S (n + 1)
    have hb := zbt_le S (S 0 0 0) (S 0 0 0 + (n + 1)) (S 10 0 0)
    unfold zps at e ⊢
    have h2 : zH (zup (zps S n) 0 0 0 (S 0 0 0 + n + 1)) := zH_zup (ih (by omega)) (by omega)
    refine zrl_H h2 _ (by omega) ?_
    rw [zrl_11] at e
    rw [e]
    omega
theorem t_pass (F : za_F G) (I : zI G A B S r0) (hb : zH S) (hi24 : S 10 0 0 ≤ 24) (hn : S 11 0 0 ≤ 900) (h0 : S 0 0 0 ≤ 9999) (x : Int32) (K : za_O → za_H → Prop)
    (q0 : ¬ (1 ≤ x.toInt ∧ x.toInt ≤ 999) → K (.inr 0) (zmk A B S T r0))
    (q1 : ∀ n, 1 ≤ n → n ≤ 999 → x = nI n → 9999 < S 0 0 0 + n → K (.inr 1) (zmk A B S T r0))
    (q2 : ∀ n, 1 ≤ n → n ≤ 999 → x = nI n → S 0 0 0 + n ≤ 9999 → ∀ A' B' r0', zX A B A' B' → zI G A' B' (zps S n) r0' → K (.inl (some (.int (nI (S 0 0 0 + n))))) (zmk A' B' (zps S n) T r0')) : za_P G mX7_pass [.ref (A.1 (0, 0, 0)), .int x] (zmk A B S T r0) 26 8100 K := by
  have J := I.1
  refine za_m (y := yX7_pass) (cc := cX7_pass) (nL := 3) (ret := (some .int)) (hh := []) (fr := 8) (lk := lkX7) (hx := []) (ini := false) (cuts := fun p => p == 45) F okX7 trivial (by decide +kernel) (by decide +kernel) (Nat.le_of_ble_eq_true rfl) (by simp [Value.category]) (fun w hw => ?_)
  refine hw 60 _ _ _ _ _ _ ?_
  simp only [za_lv_0, za_lv_s, za_isI_i, za_rf_r, za_rf_n, za_rf_v, za_ck_r, za_isC_eq, zs_f, zs_d, zs_iconst, zs_bipush, zs_sipush, zs_lconst, zs_null, zs_iload_n, zs_iload, zs_aload_n, zs_aload, za_iv_i, zs_iinc, zs_istore_n, zs_istore, zs_astore_n, zs_astore, zs_iadd, zs_isub, zs_imul, zs_iand, zs_ior, zs_ixor, zs_ishl, zs_ishr, zs_idiv, zs_irem, zs_lshl, zs_lshr, zs_land, zs_lor, zs_lstore, za_lg_0, za_lg_s, za_ll_s, za_lc_s, zs_lload_n, zs_lload, zs_ldc, zs_i2l, zs_lcmp, zs_dup, zs_dup_x1, zs_dup2, zs_pop, zs_goto, zs_icmp, zs_ifc, zs_nonnull, zs_acmp_eq, zs_acmp_ne, za_sw_s, zs_switch, za_iaload_s, zs_iaload, za_baload_s, zs_baload, za_laload_s, zs_laload, za_aaload_s, zs_aaload, za_iastore_s, zs_iastore, za_bastore_s, zs_bastore, za_lastore_s, zs_lastore, za_aasN_s, zs_aastoreN, za_aas_s, zs_aastore, za_alg_s, za_alg_n, zs_alen, za_gf_s, za_vl_0, za_vl_s, zs_getfield, za_pf_s, zs_putfield, za_nw_s, za_nw_t, za_tx_1, za_tx_2, zs_th, zs_new, zs_newarray, za_cx_s, zs_checkcast, za_vB_s, za_vA_s, za_sX_s, za_sN_s, za_sA_5, za_sA_6, za_sA_1, za_sA_3, za_oB_s, za_iA_2, za_iA_4, zs_invokevirtual, zs_invokestatic, zs_invokespecial, zs_ireturn, zs_return, zs_areturn, zs_areturnA, za_ex0, za_go_eq, za_fit_i, za_fit_b, za_fit_b0, za_fit_b1, za_fit_r, za_fit_n, za_fit_a, za_up_s, za_upup, za_fn_0, za_fn_1, za_fn_2, za_fn_3, za_cd_eq, za_cd_ne, za_cd_lt, za_cd_ge, za_cd_gt, za_cd_le, za_cat_i, za_cat_r, za_cat_n, zb_n0, zb_n1, zb_narrow, zn_narrow, Option.toList_some, Option.toList_none, List.set_cons_zero, List.set_cons_succ, List.length_cons, List.length_nil, List.take_succ_cons, List.take_zero, List.drop_succ_cons, List.drop_zero, List.reverse_cons, List.reverse_nil, List.nil_append, List.cons_append, List.map_cons, List.map_nil, List.replicate_succ, List.replicate_zero, true_and, and_true, true_or, or_true, false_or, or_false, eq_self, not_true_eq_false, not_false_eq_true, false_implies, true_implies, implies_true, and_self, Nat.zero_add, Nat.add_zero, Nat.le_refl, Nat.zero_le, Nat.reduceEqDiff, if_true, if_false, za_t.eq_1, za_t0.eq_1, Int.cast_ofNat_Int, Int.reduceAdd, Int.reduceToNat, Int.reduceLE, Int.reduceNeg, Nat.reduceAdd, Nat.reduceSub, Nat.reduceBEq, Nat.reduceLT, Nat.reduceLeDiff, ↓reduceIte, Bool.false_eq_true, Bool.or_false, Bool.or_true, Bool.false_or, Bool.true_or, decide_true, decide_false, ge_iff_le, gt_iff_lt, dX7_pass_0, dX7_pass_1, dX7_pass_2, dX7_pass_5, dX7_pass_8, dX7_pass_11, dX7_pass_14, dX7_pass_15, dX7_pass_17, dX7_pass_20, dX7_pass_21, dX7_pass_22, dX7_pass_25, dX7_pass_26, dX7_pass_27, dX7_pass_30, dX7_pass_33, dX7_pass_36, dX7_pass_37, dX7_pass_39, dX7_pass_42, dX7_pass_43, dX7_pass_44, dX7_pass_45, dX7_pass_46, dX7_pass_47, dX7_pass_50, dX7_pass_51, dX7_pass_52, dX7_pass_55, dX7_pass_56, dX7_pass_57, dX7_pass_60, dX7_pass_61, dX7_pass_64, dX7_pass_67, dX7_pass_70, dX7_pass_71, dX7_pass_74, uX7_f31, uX7_m44, uX7_n48, uX7_t48, uX7_n72, uX7_t72, uX7_s144, uX7_s146, uX7_m148, zi_i0, zi_i1, zi_s999, zi_s9999, (zmk_at J.x), zc_0]
  refine za_call (mc' := 0) (ms' := 0) (by omega) (by omega) (m_isIn F _ _ _ _ _ ?_)
  simp only [za_lv_0, za_lv_s, za_isI_i, za_rf_r, za_rf_n, za_rf_v, za_ck_r, za_isC_eq, zs_f, zs_d, zs_iconst, zs_bipush, zs_sipush, zs_lconst, zs_null, zs_iload_n, zs_iload, zs_aload_n, zs_aload, za_iv_i, zs_iinc, zs_istore_n, zs_istore, zs_astore_n, zs_astore, zs_iadd, zs_isub, zs_imul, zs_iand, zs_ior, zs_ixor, zs_ishl, zs_ishr, zs_idiv, zs_irem, zs_lshl, zs_lshr, zs_land, zs_lor, zs_lstore, za_lg_0, za_lg_s, za_ll_s, za_lc_s, zs_lload_n, zs_lload, zs_ldc, zs_i2l, zs_lcmp, zs_dup, zs_dup_x1, zs_dup2, zs_pop, zs_goto, zs_icmp, zs_ifc, zs_nonnull, zs_acmp_eq, zs_acmp_ne, za_sw_s, zs_switch, za_iaload_s, zs_iaload, za_baload_s, zs_baload, za_laload_s, zs_laload, za_aaload_s, zs_aaload, za_iastore_s, zs_iastore, za_bastore_s, zs_bastore, za_lastore_s, zs_lastore, za_aasN_s, zs_aastoreN, za_aas_s, zs_aastore, za_alg_s, za_alg_n, zs_alen, za_gf_s, za_vl_0, za_vl_s, zs_getfield, za_pf_s, zs_putfield, za_nw_s, za_nw_t, za_tx_1, za_tx_2, zs_th, zs_new, zs_newarray, za_cx_s, zs_checkcast, za_vB_s, za_vA_s, za_sX_s, za_sN_s, za_sA_5, za_sA_6, za_sA_1, za_sA_3, za_oB_s, za_iA_2, za_iA_4, zs_invokevirtual, zs_invokestatic, zs_invokespecial, zs_ireturn, zs_return, zs_areturn, zs_areturnA, za_ex0, za_go_eq, za_fit_i, za_fit_b, za_fit_b0, za_fit_b1, za_fit_r, za_fit_n, za_fit_a, za_up_s, za_upup, za_fn_0, za_fn_1, za_fn_2, za_fn_3, za_cd_eq, za_cd_ne, za_cd_lt, za_cd_ge, za_cd_gt, za_cd_le, za_cat_i, za_cat_r, za_cat_n, zb_n0, zb_n1, zb_narrow, zn_narrow, Option.toList_some, Option.toList_none, List.set_cons_zero, List.set_cons_succ, List.length_cons, List.length_nil, List.take_succ_cons, List.take_zero, List.drop_succ_cons, List.drop_zero, List.reverse_cons, List.reverse_nil, List.nil_append, List.cons_append, List.map_cons, List.map_nil, List.replicate_succ, List.replicate_zero, true_and, and_true, true_or, or_true, false_or, or_false, eq_self, not_true_eq_false, not_false_eq_true, false_implies, true_implies, implies_true, and_self, Nat.zero_add, Nat.add_zero, Nat.le_refl, Nat.zero_le, Nat.reduceEqDiff, if_true, if_false, za_t.eq_1, za_t0.eq_1, Int.cast_ofNat_Int, Int.reduceAdd, Int.reduceToNat, Int.reduceLE, Int.reduceNeg, Nat.reduceAdd, Nat.reduceSub, Nat.reduceBEq, Nat.reduceLT, Nat.reduceLeDiff, ↓reduceIte, Bool.false_eq_true, Bool.or_false, Bool.or_true, Bool.false_or, Bool.true_or, decide_true, decide_false, ge_iff_le, gt_iff_lt, dX7_pass_0, dX7_pass_1, dX7_pass_2, dX7_pass_5, dX7_pass_8, dX7_pass_11, dX7_pass_14, dX7_pass_15, dX7_pass_17, dX7_pass_20, dX7_pass_21, dX7_pass_22, dX7_pass_25, dX7_pass_26, dX7_pass_27, dX7_pass_30, dX7_pass_33, dX7_pass_36, dX7_pass_37, dX7_pass_39, dX7_pass_42, dX7_pass_43, dX7_pass_44, dX7_pass_45, dX7_pass_46, dX7_pass_47, dX7_pass_50, dX7_pass_51, dX7_pass_52, dX7_pass_55, dX7_pass_56, dX7_pass_57, dX7_pass_60, dX7_pass_61, dX7_pass_64, dX7_pass_67, dX7_pass_70, dX7_pass_71, dX7_pass_74, uX7_f31, uX7_m44, uX7_n48, uX7_t48, uX7_n72, uX7_t72, uX7_s144, uX7_s146, uX7_m148, zi_i0, zi_i1, zi_s999, zi_s9999, zb_eq0, (zmk_at J.x), zc_0]
  simp (disch := omega) only [nI_toInt, decide_eq_false_iff_not]
  refine ⟨fun q => ?_, fun q => q0 (fun z => q (fun y => y z))⟩
  rw [Decidable.not_not] at q
  obtain ⟨n, h1, rfl, h3⟩ := zx_n (x := x) (by omega)
  rw [nI_add]
  simp (disch := omega) only [zn_le]
  refine ⟨fun z => ?_, fun z => q1 n (by omega) (by omega) rfl (by omega)⟩
  have loop : ∀ k j A' B' r0' c s, j + k = n → zX A B A' B' → zI G A' B' (zps S j) r0' → c ≤ 2 + zbt S (S 0 0 0) (S 0 0 0 + j) (S 10 0 0) → s ≤ 50 + 4 * B'.1 8 11 0 → w 45 [some (.ref (A.1 (0, 0, 0))), some (.int (nI n)), some (.int (nI j))] [] (zmk A' B' (zps S j) T r0') c s := by
    intro k
    induction k with
    | zero =>
      intro j A' B' r0' c s hj X' I' hc hs
      have J' := I'.1
      have h8 := (J'.l (k := 11) (i := 0) rfl).2.2.1
      have hbt := zbt_le S (S 0 0 0) (S 0 0 0 + j) (S 10 0 0)
      have hj' : j = n := by omega
      rw [← (X'.1 (0, 0, 0) (Or.inl rfl)).1]
      refine hw 60 _ _ _ _ _ _ ?_
      simp only [za_lv_0, za_lv_s, za_isI_i, za_rf_r, za_rf_n, za_rf_v, za_ck_r, za_isC_eq, zs_f, zs_d, zs_iconst, zs_bipush, zs_sipush, zs_lconst, zs_null, zs_iload_n, zs_iload, zs_aload_n, zs_aload, za_iv_i, zs_iinc, zs_istore_n, zs_istore, zs_astore_n, zs_astore, zs_iadd, zs_isub, zs_imul, zs_iand, zs_ior, zs_ixor, zs_ishl, zs_ishr, zs_idiv, zs_irem, zs_lshl, zs_lshr, zs_land, zs_lor, zs_lstore, za_lg_0, za_lg_s, za_ll_s, za_lc_s, zs_lload_n, zs_lload, zs_ldc, zs_i2l, zs_lcmp, zs_dup, zs_dup_x1, zs_dup2, zs_pop, zs_goto, zs_icmp, zs_ifc, zs_nonnull, zs_acmp_eq, zs_acmp_ne, za_sw_s, zs_switch, za_iaload_s, zs_iaload, za_baload_s, zs_baload, za_laload_s, zs_laload, za_aaload_s, zs_aaload, za_iastore_s, zs_iastore, za_bastore_s, zs_bastore, za_lastore_s, zs_lastore, za_aasN_s, zs_aastoreN, za_aas_s, zs_aastore, za_alg_s, za_alg_n, zs_alen, za_gf_s, za_vl_0, za_vl_s, zs_getfield, za_pf_s, zs_putfield, za_nw_s, za_nw_t, za_tx_1, za_tx_2, zs_th, zs_new, zs_newarray, za_cx_s, zs_checkcast, za_vB_s, za_vA_s, za_sX_s, za_sN_s, za_sA_5, za_sA_6, za_sA_1, za_sA_3, za_oB_s, za_iA_2, za_iA_4, zs_invokevirtual, zs_invokestatic, zs_invokespecial, zs_ireturn, zs_return, zs_areturn, zs_areturnA, za_ex0, za_go_eq, za_fit_i, za_fit_b, za_fit_b0, za_fit_b1, za_fit_r, za_fit_n, za_fit_a, za_up_s, za_upup, za_fn_0, za_fn_1, za_fn_2, za_fn_3, za_cd_eq, za_cd_ne, za_cd_lt, za_cd_ge, za_cd_gt, za_cd_le, za_cat_i, za_cat_r, za_cat_n, zb_n0, zb_n1, zb_narrow, zn_narrow, Option.toList_some, Option.toList_none, List.set_cons_zero, List.set_cons_succ, List.length_cons, List.length_nil, List.take_succ_cons, List.take_zero, List.drop_succ_cons, List.drop_zero, List.reverse_cons, List.reverse_nil, List.nil_append, List.cons_append, List.map_cons, List.map_nil, List.replicate_succ, List.replicate_zero, true_and, and_true, true_or, or_true, false_or, or_false, eq_self, not_true_eq_false, not_false_eq_true, false_implies, true_implies, implies_true, and_self, Nat.zero_add, Nat.add_zero, Nat.le_refl, Nat.zero_le, Nat.reduceEqDiff, if_true, if_false, za_t.eq_1, za_t0.eq_1, Int.cast_ofNat_Int, Int.reduceAdd, Int.reduceToNat, Int.reduceLE, Int.reduceNeg, Nat.reduceAdd, Nat.reduceSub, Nat.reduceBEq, Nat.reduceLT, Nat.reduceLeDiff, ↓reduceIte, Bool.false_eq_true, Bool.or_false, Bool.or_true, Bool.false_or, Bool.true_or, decide_true, decide_false, ge_iff_le, gt_iff_lt, dX7_pass_0, dX7_pass_1, dX7_pass_2, dX7_pass_5, dX7_pass_8, dX7_pass_11, dX7_pass_14, dX7_pass_15, dX7_pass_17, dX7_pass_20, dX7_pass_21, dX7_pass_22, dX7_pass_25, dX7_pass_26, dX7_pass_27, dX7_pass_30, dX7_pass_33, dX7_pass_36, dX7_pass_37, dX7_pass_39, dX7_pass_42, dX7_pass_43, dX7_pass_44, dX7_pass_45, dX7_pass_46, dX7_pass_47, dX7_pass_50, dX7_pass_51, dX7_pass_52, dX7_pass_55, dX7_pass_56, dX7_pass_57, dX7_pass_60, dX7_pass_61, dX7_pass_64, dX7_pass_67, dX7_pass_70, dX7_pass_71, dX7_pass_74, uX7_f31, uX7_m44, uX7_n48, uX7_t48, uX7_n72, uX7_t72, uX7_s144, uX7_s146, uX7_m148, zi_i0, zi_i1, zi_s999, zi_s9999, (zmk_at J'.x), zc_0]
      rw [hj', zps_0]
      rw [hj'] at I'
      exact ⟨fun _ => ⟨by omega, by omega, q2 n (by omega) (by omega) rfl z A' B' r0' X' I'⟩, fun z => absurd (nI_le (Nat.le_refl _) (by omega)) z⟩
    | succ k ih =>
      intro j A' B' r0' c s hj X' I' hc hs
      have J' := I'.1
      have h8 := (J'.l (k := 11) (i := 0) rfl).2.2.1
      have e0 := zps_0 S j
      have e11 := zps_11 S j
      have e10 : zps S j 10 = S 10 := zps_o S j (by omega) (by omega) (by omega)
      have e36 : zps S j 36 = S 36 := zps_o S j (by omega) (by omega) (by omega)
      have hbt := zbt_le S (S 0 0 0) (S 0 0 0 + (j + 1)) (S 10 0 0)
      have hbs := zbt_s S (show S 0 0 0 ≤ S 0 0 0 + j by omega) (S 10 0 0)
      have hH := zps_H hb j (by omega) (by omega) (by omega)
      have I2 := zI_zup (f := 0) (i := 0) (j := 0) (v := S 0 0 0 + j + 1) I' (by omega)
      have H2 := zH_zup (f := 0) (i := 0) (j := 0) (v := S 0 0 0 + j + 1) hH (by omega)
      rw [← (X'.1 (0, 0, 0) (Or.inl rfl)).1]
      refine hw 60 _ _ _ _ _ _ ?_
      simp only [za_lv_0, za_lv_s, za_isI_i, za_rf_r, za_rf_n, za_rf_v, za_ck_r, za_isC_eq, zs_f, zs_d, zs_iconst, zs_bipush, zs_sipush, zs_lconst, zs_null, zs_iload_n, zs_iload, zs_aload_n, zs_aload, za_iv_i, zs_iinc, zs_istore_n, zs_istore, zs_astore_n, zs_astore, zs_iadd, zs_isub, zs_imul, zs_iand, zs_ior, zs_ixor, zs_ishl, zs_ishr, zs_idiv, zs_irem, zs_lshl, zs_lshr, zs_land, zs_lor, zs_lstore, za_lg_0, za_lg_s, za_ll_s, za_lc_s, zs_lload_n, zs_lload, zs_ldc, zs_i2l, zs_lcmp, zs_dup, zs_dup_x1, zs_dup2, zs_pop, zs_goto, zs_icmp, zs_ifc, zs_nonnull, zs_acmp_eq, zs_acmp_ne, za_sw_s, zs_switch, za_iaload_s, zs_iaload, za_baload_s, zs_baload, za_laload_s, zs_laload, za_aaload_s, zs_aaload, za_iastore_s, zs_iastore, za_bastore_s, zs_bastore, za_lastore_s, zs_lastore, za_aasN_s, zs_aastoreN, za_aas_s, zs_aastore, za_alg_s, za_alg_n, zs_alen, za_gf_s, za_vl_0, za_vl_s, zs_getfield, za_pf_s, zs_putfield, za_nw_s, za_nw_t, za_tx_1, za_tx_2, zs_th, zs_new, zs_newarray, za_cx_s, zs_checkcast, za_vB_s, za_vA_s, za_sX_s, za_sN_s, za_sA_5, za_sA_6, za_sA_1, za_sA_3, za_oB_s, za_iA_2, za_iA_4, zs_invokevirtual, zs_invokestatic, zs_invokespecial, zs_ireturn, zs_return, zs_areturn, zs_areturnA, za_ex0, za_go_eq, za_fit_i, za_fit_b, za_fit_b0, za_fit_b1, za_fit_r, za_fit_n, za_fit_a, za_up_s, za_upup, za_fn_0, za_fn_1, za_fn_2, za_fn_3, za_cd_eq, za_cd_ne, za_cd_lt, za_cd_ge, za_cd_gt, za_cd_le, za_cat_i, za_cat_r, za_cat_n, zb_n0, zb_n1, zb_narrow, zn_narrow, Option.toList_some, Option.toList_none, List.set_cons_zero, List.set_cons_succ, List.length_cons, List.length_nil, List.take_succ_cons, List.take_zero, List.drop_succ_cons, List.drop_zero, List.reverse_cons, List.reverse_nil, List.nil_append, List.cons_append, List.map_cons, List.map_nil, List.replicate_succ, List.replicate_zero, true_and, and_true, true_or, or_true, false_or, or_false, eq_self, not_true_eq_false, not_false_eq_true, false_implies, true_implies, implies_true, and_self, Nat.zero_add, Nat.add_zero, Nat.le_refl, Nat.zero_le, Nat.reduceEqDiff, if_true, if_false, za_t.eq_1, za_t0.eq_1, Int.cast_ofNat_Int, Int.reduceAdd, Int.reduceToNat, Int.reduceLE, Int.reduceNeg, Nat.reduceAdd, Nat.reduceSub, Nat.reduceBEq, Nat.reduceLT, Nat.reduceLeDiff, ↓reduceIte, Bool.false_eq_true, Bool.or_false, Bool.or_true, Bool.false_or, Bool.true_or, decide_true, decide_false, ge_iff_le, gt_iff_lt, dX7_pass_0, dX7_pass_1, dX7_pass_2, dX7_pass_5, dX7_pass_8, dX7_pass_11, dX7_pass_14, dX7_pass_15, dX7_pass_17, dX7_pass_20, dX7_pass_21, dX7_pass_22, dX7_pass_25, dX7_pass_26, dX7_pass_27, dX7_pass_30, dX7_pass_33, dX7_pass_36, dX7_pass_37, dX7_pass_39, dX7_pass_42, dX7_pass_43, dX7_pass_44, dX7_pass_45, dX7_pass_46, dX7_pass_47, dX7_pass_50, dX7_pass_51, dX7_pass_52, dX7_pass_55, dX7_pass_56, dX7_pass_57, dX7_pass_60, dX7_pass_61, dX7_pass_64, dX7_pass_67, dX7_pass_70, dX7_pass_71, dX7_pass_74, uX7_f31, uX7_m44, uX7_n48, uX7_t48, uX7_n72, uX7_t72, uX7_s144, uX7_s146, uX7_m148, zi_i0, zi_i1, zi_s999, zi_s9999, (zmk_at J'.x), zc_0, nI_add, (zst_0 J'.f J'.x)]
      rw [e0]
      refine ⟨fun z => absurd z (nI_ge (by omega) (by omega)), fun _ => ?_⟩
      generalize hS2 : zup (zps S j) 0 0 0 (S 0 0 0 + j + 1) = S2 at *
      have f10 : S2 10 = S 10 := by rw [← hS2, zup_o _ (by omega), e10]
      have f11 : S2 11 = zps S j 11 := by rw [← hS2, zup_o _ (by omega)]
      have f0 : S2 0 0 0 = S 0 0 0 + j + 1 := by rw [← hS2, zup_s]
      have f36 : S2 36 = S 36 := by rw [← hS2, zup_o _ (by omega), e36]
      have fq : zeq S2 (S2 0 0 0) (S2 10 0 0) = zeq S (S 0 0 0 + j + 1) (S 10 0 0) := by rw [f0, f10, zeq_o f36]
      have fs : zps S (j + 1) = zrl S2 (S2 10 0 0) := by rw [f10, ← hS2]; rfl
      have hz1 := zgr_c (S2 11 0 0) (B'.1 8 11 0) (zeq S2 (S2 0 0 0) (S2 10 0 0))
      rw [show S 0 0 0 + (j + 1) = S 0 0 0 + j + 1 by omega] at hbt
      have hz2 := zca_b (n := S2 11 0 0) (cap := B'.1 8 11 0) (m := zeq S2 (S2 0 0 0) (S2 10 0 0)) (by rw [f11, e11, fq]; omega) h8
      refine za_call (mc' := zeq S2 (S2 0 0 0) (S2 10 0 0)) (ms' := zgr (S2 11 0 0) (B'.1 8 11 0) (zeq S2 (S2 0 0 0) (S2 10 0 0))) (by omega) (by omega) (m_release F I2 H2 (by rw [f10]; exact hi24) (by rw [f11, e11, fq]; omega) _ fun A2 B2 r2 X2 I3 hc2 => ?_)
      simp only [za_lv_0, za_lv_s, za_isI_i, za_rf_r, za_rf_n, za_rf_v, za_ck_r, za_isC_eq, zs_f, zs_d, zs_iconst, zs_bipush, zs_sipush, zs_lconst, zs_null, zs_iload_n, zs_iload, zs_aload_n, zs_aload, za_iv_i, zs_iinc, zs_istore_n, zs_istore, zs_astore_n, zs_astore, zs_iadd, zs_isub, zs_imul, zs_iand, zs_ior, zs_ixor, zs_ishl, zs_ishr, zs_idiv, zs_irem, zs_lshl, zs_lshr, zs_land, zs_lor, zs_lstore, za_lg_0, za_lg_s, za_ll_s, za_lc_s, zs_lload_n, zs_lload, zs_ldc, zs_i2l, zs_lcmp, zs_dup, zs_dup_x1, zs_dup2, zs_pop, zs_goto, zs_icmp, zs_ifc, zs_nonnull, zs_acmp_eq, zs_acmp_ne, za_sw_s, zs_switch, za_iaload_s, zs_iaload, za_baload_s, zs_baload, za_laload_s, zs_laload, za_aaload_s, zs_aaload, za_iastore_s, zs_iastore, za_bastore_s, zs_bastore, za_lastore_s, zs_lastore, za_aasN_s, zs_aastoreN, za_aas_s, zs_aastore, za_alg_s, za_alg_n, zs_alen, za_gf_s, za_vl_0, za_vl_s, zs_getfield, za_pf_s, zs_putfield, za_nw_s, za_nw_t, za_tx_1, za_tx_2, zs_th, zs_new, zs_newarray, za_cx_s, zs_checkcast, za_vB_s, za_vA_s, za_sX_s, za_sN_s, za_sA_5, za_sA_6, za_sA_1, za_sA_3, za_oB_s, za_iA_2, za_iA_4, zs_invokevirtual, zs_invokestatic, zs_invokespecial, zs_ireturn, zs_return, zs_areturn, zs_areturnA, za_ex0, za_go_eq, za_fit_i, za_fit_b, za_fit_b0, za_fit_b1, za_fit_r, za_fit_n, za_fit_a, za_up_s, za_upup, za_fn_0, za_fn_1, za_fn_2, za_fn_3, za_cd_eq, za_cd_ne, za_cd_lt, za_cd_ge, za_cd_gt, za_cd_le, za_cat_i, za_cat_r, za_cat_n, zb_n0, zb_n1, zb_narrow, zn_narrow, Option.toList_some, Option.toList_none, List.set_cons_zero, List.set_cons_succ, List.length_cons, List.length_nil, List.take_succ_cons, List.take_zero, List.drop_succ_cons, List.drop_zero, List.reverse_cons, List.reverse_nil, List.nil_append, List.cons_append, List.map_cons, List.map_nil, List.replicate_succ, List.replicate_zero, true_and, and_true, true_or, or_true, false_or, or_false, eq_self, not_true_eq_false, not_false_eq_true, false_implies, true_implies, implies_true, and_self, Nat.zero_add, Nat.add_zero, Nat.le_refl, Nat.zero_le, Nat.reduceEqDiff, if_true, if_false, za_t.eq_1, za_t0.eq_1, Int.cast_ofNat_Int, Int.reduceAdd, Int.reduceToNat, Int.reduceLE, Int.reduceNeg, Nat.reduceAdd, Nat.reduceSub, Nat.reduceBEq, Nat.reduceLT, Nat.reduceLeDiff, ↓reduceIte, Bool.false_eq_true, Bool.or_false, Bool.or_true, Bool.false_or, Bool.true_or, decide_true, decide_false, ge_iff_le, gt_iff_lt, dX7_pass_0, dX7_pass_1, dX7_pass_2, dX7_pass_5, dX7_pass_8, dX7_pass_11, dX7_pass_14, dX7_pass_15, dX7_pass_17, dX7_pass_20, dX7_pass_21, dX7_pass_22, dX7_pass_25, dX7_pass_26, dX7_pass_27, dX7_pass_30, dX7_pass_33, dX7_pass_36, dX7_pass_37, dX7_pass_39, dX7_pass_42, dX7_pass_43, dX7_pass_44, dX7_pass_45, dX7_pass_46, dX7_pass_47, dX7_pass_50, dX7_pass_51, dX7_pass_52, dX7_pass_55, dX7_pass_56, dX7_pass_57, dX7_pass_60, dX7_pass_61, dX7_pass_64, dX7_pass_67, dX7_pass_70, dX7_pass_71, dX7_pass_74, uX7_f31, uX7_m44, uX7_n48, uX7_t48, uX7_n72, uX7_t72, uX7_s144, uX7_s146, uX7_m148, zi_i0, zi_i1, zi_s999, zi_s9999, nI_add]
      rw [(X'.1 (0, 0, 0) (Or.inl rfl)).1, ← fs]
      rw [← fs] at I3
      refine ih (j + 1) A2 B2 r2 _ _ (by omega) (X'.tr X2) I3 ?_ ?_
      · rw [show S 0 0 0 + (j + 1) = S 0 0 0 + j + 1 by omega]; omega
      · omega
  exact loop n 0 A B r0 0 0 (by omega) (zX.rf A B) I (by omega) (by omega)
end ZCL
