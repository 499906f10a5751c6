/-! THE LAW (2): what an app is to be told -/
/-- how many items app a is to be told when the changes below m are looked at; which the k-th is -/
def yc (S : zS) (a m : Nat) : Nat := zpl S a (S 39 a 0) (m - S 39 a 0) 16 a 0
def yr (S : zS) (a m k : Nat) : Nat := zpl S a (S 39 a 0) (m - S 39 a 0) 21 a k
/-- the law's rows of app a say that -/
def yN1 (S : zS) (T : zT) (m a : Nat) : Prop := S 39 a 0 ≤ m ∧ T.1 2 a = nI (yc S a m) ∧ ∀ k, k < yc S a m → T.1 1 (24 * a + k) = nI (yr S a m k)
def yN (S : zS) (T : zT) (m : Nat) : Prop := ∀ a, a < 2 → yN1 S T m a
/-- among the first k is i -/
def yex (g : Nat → Nat) (i : Nat) : Nat → Bool
  | 0 => false
  | k + 1 => yex g i k || decide (g k = i)
theorem yex_t (g : Nat → Nat) (i : Nat) : ∀ n, yex g i n = true ↔ ∃ k, k < n ∧ g k = i
  | 0 => ⟨fun z => (by cases z), fun ⟨k, h, _⟩ => absurd h (Nat.not_lt_zero _)⟩
  | n + 1 => by
    unfold yex
    rw [Bool.or_eq_true, yex_t g i n, decide_eq_true_iff]
    refine ⟨fun z => ?_, fun ⟨k, h1, h2⟩ => ?_⟩
    · rcases z with ⟨k, h1, h2⟩ | z
      · exact ⟨k, by omega, h2⟩
      · exact ⟨n, by omega, z⟩
    · by_cases e : k = n
      · subst e; exact Or.inr h2
      · exact Or.inl ⟨k, by omega, h2⟩
section YLB
variable {S S' : zS} {T T' : zT}
theorem yst_t {a m : Nat} (h : S 39 a 0 ≤ m) (h1 : S 35 (S 20 m 0) 0 = S 38 a 0) (h2 : yex (yr S a m) (S 20 m 0) (yc S a m) = false) : yc S a (m + 1) = yc S a m + 1 ∧ (∀ k, k < yc S a m → yr S a (m + 1) k = yr S a m k) ∧ yr S a (m + 1) (yc S a m) = S 20 m 0 := by
  have hb : (zpm S a (S 39 a 0) (m - S 39 a 0)).testBit (S 20 m 0) = false := by
    cases e : (zpm S a (S 39 a 0) (m - S 39 a 0)).testBit (S 20 m 0) with
    | false => rfl
    | true =>
      have := (yex_t (yr S a m) (S 20 m 0) (yc S a m)).mpr ((zpl_b _ _).mp e)
      rw [h2] at this
      cases this
  have em : m + 1 - S 39 a 0 = (m - S 39 a 0) + 1 := by omega
  have es : S 39 a 0 + (m - S 39 a 0) = m := by omega
  have el : zpl S a (S 39 a 0) (m - S 39 a 0 + 1) = ztd (zpl S a (S 39 a 0) (m - S 39 a 0)) a (S 20 m 0) := by
    show (if S 35 (S 20 (S 39 a 0 + (m - S 39 a 0)) 0) 0 = S 38 a 0 ∧ (zpm S a (S 39 a 0) (m - S 39 a 0)).testBit (S 20 (S 39 a 0 + (m - S 39 a 0)) 0) = false then ztd (zpl S a (S 39 a 0) (m - S 39 a 0)) a (S 20 (S 39 a 0 + (m - S 39 a 0)) 0) else _) = _
    rw [es, if_pos ⟨h1, hb⟩]
  unfold yc yr
  rw [em, el]
  refine ⟨zup_s _ _ _ _ _, fun k hk => (zup_n _ (by omega)).trans (zup_n _ (by omega)), (zup_n _ (by omega)).trans (zup_s _ _ _ _ _)⟩
theorem yst_f {a m : Nat} (h : S 39 a 0 ≤ m) (h1 : S 35 (S 20 m 0) 0 = S 38 a 0 → yex (yr S a m) (S 20 m 0) (yc S a m) = true) : yc S a (m + 1) = yc S a m ∧ ∀ k, yr S a (m + 1) k = yr S a m k := by
  have em : m + 1 - S 39 a 0 = (m - S 39 a 0) + 1 := by omega
  have es : S 39 a 0 + (m - S 39 a 0) = m := by omega
  have el : zpl S a (S 39 a 0) (m - S 39 a 0 + 1) = zpl S a (S 39 a 0) (m - S 39 a 0) := by
    show (if S 35 (S 20 (S 39 a 0 + (m - S 39 a 0)) 0) 0 = S 38 a 0 ∧ (zpm S a (S 39 a 0) (m - S 39 a 0)).testBit (S 20 (S 39 a 0 + (m - S 39 a 0)) 0) = false then ztd (zpl S a (S 39 a 0) (m - S 39 a 0)) a (S 20 (S 39 a 0 + (m - S 39 a 0)) 0) else _) = _
    rw [es]
    refine if_neg (fun z => ?_)
    have := (zpl_b (S := S) (a := a) (s := S 39 a 0) (m - S 39 a 0) (S 20 m 0)).mpr ((yex_t _ _ _).mp (h1 z.1))
    rw [z.2] at this
    cases this
  unfold yc yr
  rw [em, el]
  exact ⟨rfl, fun _ => rfl⟩
theorem ypl_fr {a s m : Nat} (h38 : S' 38 a 0 = S 38 a 0) (h20 : ∀ j, j < m → S' 20 j 0 = S 20 j 0 ∧ S' 35 (S 20 j 0) 0 = S 35 (S 20 j 0) 0) : ∀ k, s + k ≤ m → zpm S' a s k = zpm S a s k ∧ zpl S' a s k 16 a 0 = zpl S a s k 16 a 0 ∧ ∀ j, j < zpl S a s k 16 a 0 → zpl S' a s k 21 a j = zpl S a s k 21 a j
  | 0, _ => ⟨rfl, (zup_s _ _ _ _ _).trans (zup_s _ _ _ _ _).symm, fun j hj => absurd hj (by rw [show zpl S a s 0 16 a 0 = 0 from zup_s _ _ _ _ _]; omega)⟩
  | k + 1, hk => by
    obtain ⟨i1, i2, i3⟩ := ypl_fr (s := s) (m := m) h38 h20 k (by omega)
    obtain ⟨j1, j2⟩ := h20 (s + k) (by omega)
    have e1 : zpm S' a s (k + 1) = if S' 35 (S' 20 (s + k) 0) 0 = S' 38 a 0 ∧ (zpm S' a s k).testBit (S' 20 (s + k) 0) = false then zpm S' a s k ||| 2 ^ (S' 20 (s + k) 0) else zpm S' a s k := rfl
    have e2 : zpl S' a s (k + 1) = if S' 35 (S' 20 (s + k) 0) 0 = S' 38 a 0 ∧ (zpm S' a s k).testBit (S' 20 (s + k) 0) = false then ztd (zpl S' a s k) a (S' 20 (s + k) 0) else zpl S' a s k := rfl
    have e3 : zpm S a s (k + 1) = if S 35 (S 20 (s + k) 0) 0 = S 38 a 0 ∧ (zpm S a s k).testBit (S 20 (s + k) 0) = false then zpm S a s k ||| 2 ^ (S 20 (s + k) 0) else zpm S a s k := rfl
    have e4 : zpl S a s (k + 1) = if S 35 (S 20 (s + k) 0) 0 = S 38 a 0 ∧ (zpm S a s k).testBit (S 20 (s + k) 0) = false then ztd (zpl S a s k) a (S 20 (s + k) 0) else zpl S a s k := rfl
    rw [e1, e2, e3, e4, j1, j2, h38, i1]
    by_cases e : S 35 (S 20 (s + k) 0) 0 = S 38 a 0 ∧ (zpm S a s k).testBit (S 20 (s + k) 0) = false
    · simp only [if_pos e]
      have t1 : ∀ X : zS, ztd X a (S 20 (s + k) 0) 16 a 0 = X 16 a 0 + 1 := fun X => zup_s _ _ _ _ _
      have t2 : ∀ X : zS, ztd X a (S 20 (s + k) 0) 21 a (X 16 a 0) = S 20 (s + k) 0 := fun X => (zup_n _ (by omega)).trans (zup_s _ _ _ _ _)
      have t3 : ∀ (X : zS) (j : Nat), j < X 16 a 0 → ztd X a (S 20 (s + k) 0) 21 a j = X 21 a j := fun X j hj => (zup_n _ (by omega)).trans (zup_n _ (by omega))
      refine ⟨trivial, by rw [t1, t1, i2], fun j hj => ?_⟩
      rw [t1] at hj
      by_cases ej : j = zpl S a s k 16 a 0
      · subst ej
        rw [t2]
        conv => lhs; rw [← i2]
        rw [t2]
      · rw [t3 _ j (by omega), t3 _ j (by omega)]
        exact i3 j (by omega)
    · simp only [if_neg e]
      exact ⟨trivial, i2, i3⟩
theorem yN1_S {m a : Nat} (h39 : S' 39 a 0 = S 39 a 0) (h38 : S' 38 a 0 = S 38 a 0) (h20 : ∀ j, j < m → S' 20 j 0 = S 20 j 0 ∧ S' 35 (S 20 j 0) 0 = S 35 (S 20 j 0) 0) (N : yN1 S T m a) (h1 : ∀ k, k < yc S a m → T'.1 1 (24 * a + k) = T.1 1 (24 * a + k)) (h2 : T'.1 2 a = T.1 2 a) : yN1 S' T' m a := by
  obtain ⟨n1, n2, n3⟩ := N
  obtain ⟨-, f2, f3⟩ := ypl_fr (s := S 39 a 0) h38 h20 (m - S 39 a 0) (by omega)
  unfold yN1 yc yr
  rw [h39]
  refine ⟨n1, h2.trans (n2.trans (by rw [f2]; rfl)), fun k hk => ?_⟩
  rw [f2] at hk
  rw [h1 k hk, n3 k hk, f3 k hk]
  rfl
theorem yN_S {m : Nat} (h39 : ∀ a, a < 2 → S' 39 a 0 = S 39 a 0) (h38 : ∀ a, a < 2 → S' 38 a 0 = S 38 a 0) (h20 : ∀ j, j < m → S' 20 j 0 = S 20 j 0 ∧ S' 35 (S 20 j 0) 0 = S 35 (S 20 j 0) 0) (N : yN S T m) (h1 : T'.1 1 = T.1 1) (h2 : T'.1 2 = T.1 2) : yN S' T' m :=
  fun a ha => yN1_S (h39 a ha) (h38 a ha) h20 (N a ha) (fun k _ => by rw [h1]) (by rw [h2])
/-- how much there is to be told -/
theorem yc_b (V : zinv S) {a m : Nat} (ha : a < S 12 0 0) (h : S 39 a 0 ≤ m) (hm : m ≤ S 11 0 0) : yc S a m ≤ 24 ∧ ∀ k, k < yc S a m → yr S a m k < 24 := by
  have V2 := zV_pl V ha (s := S 39 a 0) (m - S 39 a 0) (by omega)
  have h10 := (zv_2 V).1
  obtain ⟨-, c1, c2⟩ := zv_11 V2 a (by rw [zpl_o _ _ _ _ (by omega) (by omega)]; exact ha)
  refine ⟨c1, fun k hk => ?_⟩
  have := c2 k hk
  rw [zpl_o _ _ _ _ (show (10 : Nat) ≠ 21 by omega) (by omega)] at this
  show zpl S a (S 39 a 0) (m - S 39 a 0) 21 a k < 24
  omega
end YLB
section YLB2
variable {G : za_G} {A A' : zA} {B B' : zB} {S S' : zS} {T T' : zT} {r0 r0' : za_H} {x0 x1 x2 x3 x9 n : Nat} {f : Nat → Int32}
theorem nI_addk (a b : Nat) : nI a + nI b = nI (a + b) := nI_add a b
set_option maxRecDepth 8192 in
/-- a change is noted -/
theorem m_note (F : za_F G) (L : yB G A B S T r0 x0 x1 x2 x3 x9 n f) {m i : Nat} (hm : m < S 11 0 0) (hi : S 20 m 0 = i) (N : yN S T m) (K : za_O → za_H → Prop)
    (q : ∀ T', yB G A B S T' r0 x0 x1 x2 x3 x9 n f → yN S T' (m + 1) → (∀ k, k ≠ 1 → k ≠ 2 → T'.1 k = T.1 k) → K (.inl none) (zmk A B S T' r0)) : za_P G mL_note [.ref x0, .int (nI i), .ref x1, .ref x2] (zmk A B S T r0) 2 12 K := by
  have hx0 := yb0 L
  have hx1 := yb1 L
  have hx2 := yb2 L
  have V := L.V
  obtain ⟨y1, y2, y3, y4, y5, y6⟩ := L.Y
  have hi10 : i < S 10 0 0 := by rw [← hi]; exact zv_10 V m hm
  have h24 := (zv_2 V).1
  obtain ⟨a, ea⟩ : ∃ a, S 35 i 0 = a := ⟨_, rfl⟩
  have ha : a < 2 := by have := (y4 i hi10).1; omega
  have h38 : ∀ b, b < 2 → S 38 b 0 = b := fun b hb => by
    have : b = 0 ∨ b = 1 := by omega
    rcases this with rfl | rfl
    · exact y2
    · exact y3
  obtain ⟨N1, N2, N3⟩ := N a ha
  obtain ⟨cb1, cb2⟩ := yc_b V (a := a) (m := m) (by omega) N1 (by omega)
  have ca : (nI a).toNatClampNeg = a := zq_c (by omega)
  have va : vp_in (nI a) 2 := zn_in ha (by omega)
  -- what is told already stays
  have hoth : ∀ b, b < 2 → b ≠ a → yc S b (m + 1) = yc S b m ∧ ∀ k, yr S b (m + 1) k = yr S b m k := fun b hb hba => yst_f (N b hb).1 (fun z => by rw [hi, ea, h38 b hb] at z; exact absurd z.symm hba)
  refine za_m (y := yL_note) (cc := cL_note) (nL := 7) (ret := none) (hh := []) (fr := 8) (lk := lkL) (hx := []) (ini := false) (cuts := fun p => p == 14 || p == 55) F okL trivial (by decide +kernel) (by decide +kernel) (Nat.le_of_ble_eq_true rfl) (by simp [Value.category]) (fun w hw => ?_)
  have fin : ∀ e u, yex (yr S a m) i (yc S a m) = e → w 55 [some (.ref x0), some (.int (nI i)), some (.ref x1), some (.ref x2), some (.int (nI a)), some (.int (zb e)), some u] [] (zmk A B S T r0) 2 12 := by
    intro e u he
    have cr : (nI (24 * a + yc S a m)).toNatClampNeg = 24 * a + yc S a m := zq_c (by omega)
    refine hw 60 _ _ _ _ _ _ ?_
    simp only [za_lv_0, za_lv_s, za_isI_i, za_rf_r, za_rf_n, za_rf_v, za_ck_r, za_isC_eq, zs_f, zs_d, zs_iconst, zs_bipush, zs_sipush, zs_lconst, zs_null, zs_iload_n, zs_iload, zs_aload_n, zs_aload, za_iv_i, zs_iinc, zs_istore_n, zs_istore, zs_astore_n, zs_astore, zs_iadd, zs_isub, zs_imul, zs_iand, zs_ior, zs_ixor, zs_ishl, zs_ishr, zs_idiv, zs_irem, zs_lshl, zs_lshr, zs_land, zs_lor, zs_lstore, za_lg_0, za_lg_s, za_ll_s, za_lc_s, zs_lload_n, zs_lload, zs_ldc, zs_i2l, zs_lcmp, zs_dup, zs_dup_x1, zs_dup2, zs_pop, zs_goto, zs_icmp, zs_ifc, zs_nonnull, zs_acmp_eq, zs_acmp_ne, za_sw_s, zs_switch, za_iaload_s, zs_iaload, za_baload_s, zs_baload, za_laload_s, zs_laload, za_aaload_s, zs_aaload, za_iastore_s, zs_iastore, za_bastore_s, zs_bastore, za_lastore_s, zs_lastore, za_aasN_s, zs_aastoreN, za_aas_s, zs_aastore, za_alg_s, za_alg_n, zs_alen, za_gf_s, za_vl_0, za_vl_s, zs_getfield, za_pf_s, zs_putfield, za_nw_s, za_nw_t, za_tx_1, za_tx_2, zs_th, zs_new, zs_newarray, za_cx_s, zs_checkcast, za_vB_s, za_vA_s, za_sX_s, za_sN_s, za_sA_5, za_sA_6, za_sA_1, za_sA_3, za_oB_s, za_iA_2, za_iA_4, zs_invokevirtual, zs_invokestatic, zs_invokespecial, zs_ireturn, zs_return, zs_areturn, zs_areturnA, za_ex0, za_go_eq, za_fit_i, za_fit_b, za_fit_b0, za_fit_b1, za_fit_r, za_fit_n, za_fit_a, za_up_s, za_upup, za_fn_0, za_fn_1, za_fn_2, za_fn_3, za_cd_eq, za_cd_ne, za_cd_lt, za_cd_ge, za_cd_gt, za_cd_le, za_cat_i, za_cat_r, za_cat_n, zb_n0, zb_n1, zb_narrow, zn_narrow, Option.toList_some, Option.toList_none, List.set_cons_zero, List.set_cons_succ, List.length_cons, List.length_nil, List.take_succ_cons, List.take_zero, List.drop_succ_cons, List.drop_zero, List.reverse_cons, List.reverse_nil, List.nil_append, List.cons_append, List.map_cons, List.map_nil, List.replicate_succ, List.replicate_zero, true_and, and_true, true_or, or_true, false_or, or_false, eq_self, not_true_eq_false, not_false_eq_true, false_implies, true_implies, implies_true, and_self, Nat.zero_add, Nat.add_zero, Nat.le_refl, Nat.zero_le, Nat.reduceEqDiff, if_true, if_false, za_t.eq_1, za_t0.eq_1, Int.cast_ofNat_Int, Int.reduceAdd, Int.reduceToNat, Int.reduceLE, Int.reduceNeg, Nat.reduceAdd, Nat.reduceSub, Nat.reduceBEq, Nat.reduceLT, Nat.reduceLeDiff, ↓reduceIte, Bool.false_eq_true, Bool.or_false, Bool.or_true, Bool.false_or, Bool.true_or, decide_true, decide_false, ge_iff_le, gt_iff_lt, dL_note_0, dL_note_1, dL_note_2, dL_note_3, dL_note_6, dL_note_8, dL_note_9, dL_note_11, dL_note_12, dL_note_14, dL_note_16, dL_note_17, dL_note_19, dL_note_20, dL_note_23, dL_note_25, dL_note_28, dL_note_29, dL_note_31, dL_note_33, dL_note_34, dL_note_36, dL_note_37, dL_note_38, dL_note_39, dL_note_42, dL_note_43, dL_note_46, dL_note_47, dL_note_49, dL_note_52, dL_note_55, dL_note_57, dL_note_60, dL_note_61, dL_note_63, dL_note_65, dL_note_66, dL_note_67, dL_note_69, dL_note_70, dL_note_71, dL_note_72, dL_note_73, dL_note_74, dL_note_76, dL_note_77, dL_note_78, dL_note_79, dL_note_80, dL_note_81, uL_m9, zi_b24, zi_i0, zi_i1, hx1, hx2, ca, va, N2, pk_mul, nI_add, cr, zb_eq0, (yu1 L)]
    refine ⟨fun z => ?_, fun z => ?_⟩
    · rw [Bool.not_eq_false] at z
      rw [z] at he
      refine q T L (fun b hb => ?_) (fun _ _ _ => rfl)
      have hst : yc S b (m + 1) = yc S b m ∧ ∀ k, yr S b (m + 1) k = yr S b m k := by
        by_cases eb : b = a
        · subst eb
          exact yst_f N1 (fun _ => by rw [hi]; exact he)
        · exact hoth b hb eb
      obtain ⟨p1, p2, p3⟩ := N b hb
      refine ⟨by omega, by rw [hst.1]; exact p2, fun k hk => ?_⟩
      rw [hst.1] at hk
      rw [hst.2 k]
      exact p3 k hk
    · rw [Decidable.not_not] at z
      rw [z] at he
      have hst := yst_t N1 (by rw [hi, ea, h38 a ha]) (by rw [hi]; exact he)
      have hst' : yc S a m < 24 := by
        have := (yc_b V (a := a) (m := m + 1) (by omega) (by omega) (by omega)).1
        omega
      refine ⟨zn_in (by omega) (by omega), ?_⟩
      have L1 := yB_T (T' := ztu T 1 (upd (T.1 1) (24 * a + yc S a m) (nI i))) L (ztu_n _ _ (by omega)) (ztu_n _ _ (by omega))
      have hx2' := yb2 L1
      have e2 : (ztu T 1 (upd (T.1 1) (24 * a + yc S a m) (nI i))).1 2 = T.1 2 := ztu_n _ _ (by omega)
      rw [e2] at hx2'
      simp only [za_lv_0, za_lv_s, za_isI_i, za_rf_r, za_rf_n, za_rf_v, za_ck_r, za_isC_eq, zs_f, zs_d, zs_iconst, zs_bipush, zs_sipush, zs_lconst, zs_null, zs_iload_n, zs_iload, zs_aload_n, zs_aload, za_iv_i, zs_iinc, zs_istore_n, zs_istore, zs_astore_n, zs_astore, zs_iadd, zs_isub, zs_imul, zs_iand, zs_ior, zs_ixor, zs_ishl, zs_ishr, zs_idiv, zs_irem, zs_lshl, zs_lshr, zs_land, zs_lor, zs_lstore, za_lg_0, za_lg_s, za_ll_s, za_lc_s, zs_lload_n, zs_lload, zs_ldc, zs_i2l, zs_lcmp, zs_dup, zs_dup_x1, zs_dup2, zs_pop, zs_goto, zs_icmp, zs_ifc, zs_nonnull, zs_acmp_eq, zs_acmp_ne, za_sw_s, zs_switch, za_iaload_s, zs_iaload, za_baload_s, zs_baload, za_laload_s, zs_laload, za_aaload_s, zs_aaload, za_iastore_s, zs_iastore, za_bastore_s, zs_bastore, za_lastore_s, zs_lastore, za_aasN_s, zs_aastoreN, za_aas_s, zs_aastore, za_alg_s, za_alg_n, zs_alen, za_gf_s, za_vl_0, za_vl_s, zs_getfield, za_pf_s, zs_putfield, za_nw_s, za_nw_t, za_tx_1, za_tx_2, zs_th, zs_new, zs_newarray, za_cx_s, zs_checkcast, za_vB_s, za_vA_s, za_sX_s, za_sN_s, za_sA_5, za_sA_6, za_sA_1, za_sA_3, za_oB_s, za_iA_2, za_iA_4, zs_invokevirtual, zs_invokestatic, zs_invokespecial, zs_ireturn, zs_return, zs_areturn, zs_areturnA, za_ex0, za_go_eq, za_fit_i, za_fit_b, za_fit_b0, za_fit_b1, za_fit_r, za_fit_n, za_fit_a, za_up_s, za_upup, za_fn_0, za_fn_1, za_fn_2, za_fn_3, za_cd_eq, za_cd_ne, za_cd_lt, za_cd_ge, za_cd_gt, za_cd_le, za_cat_i, za_cat_r, za_cat_n, zb_n0, zb_n1, zb_narrow, zn_narrow, Option.toList_some, Option.toList_none, List.set_cons_zero, List.set_cons_succ, List.length_cons, List.length_nil, List.take_succ_cons, List.take_zero, List.drop_succ_cons, List.drop_zero, List.reverse_cons, List.reverse_nil, List.nil_append, List.cons_append, List.map_cons, List.map_nil, List.replicate_succ, List.replicate_zero, true_and, and_true, true_or, or_true, false_or, or_false, eq_self, not_true_eq_false, not_false_eq_true, false_implies, true_implies, implies_true, and_self, Nat.zero_add, Nat.add_zero, Nat.le_refl, Nat.zero_le, Nat.reduceEqDiff, if_true, if_false, za_t.eq_1, za_t0.eq_1, Int.cast_ofNat_Int, Int.reduceAdd, Int.reduceToNat, Int.reduceLE, Int.reduceNeg, Nat.reduceAdd, Nat.reduceSub, Nat.reduceBEq, Nat.reduceLT, Nat.reduceLeDiff, ↓reduceIte, Bool.false_eq_true, Bool.or_false, Bool.or_true, Bool.false_or, Bool.true_or, decide_true, decide_false, ge_iff_le, gt_iff_lt, dL_note_72, dL_note_73, dL_note_74, dL_note_76, dL_note_77, dL_note_78, dL_note_79, dL_note_80, dL_note_81, zi_i1, hx2', ca, va, N2, nI_add, (yu2 L1)]
      refine q _ (yB_T L1 (ztu_n _ _ (by omega)) (ztu_n _ _ (by omega))) (fun b hb => ?_) (fun k k1 k2 => by rw [ztu_n _ _ k2, ztu_n _ _ k1])
      by_cases eb : b = a
      · subst eb
        refine ⟨by omega, ?_, fun k hk => ?_⟩
        · rw [ztu_s, pk_us, hst.1]
        · rw [ztu_n _ _ (by omega), ztu_s]
          rw [hst.1] at hk
          by_cases ek : k = yc S b m
          · subst ek
            rw [pk_us, hst.2.2, hi]
          · rw [pk_un (by omega), hst.2.1 k (by omega)]
            exact N3 k (by omega)
      · obtain ⟨o1, o2⟩ := hoth b hb eb
        obtain ⟨p1, p2, p3⟩ := N b hb
        have cb := (yc_b V (a := b) (m := m) (by omega) p1 (by omega)).1
        refine ⟨by omega, ?_, fun k hk => ?_⟩
        · rw [ztu_s, pk_un eb, o1]
          exact p2
        · rw [o1] at hk
          rw [ztu_n _ _ (by omega), ztu_s, pk_un (by omega), o2 k]
          exact p3 k hk
  have loop : ∀ j k, k + j = yc S a m → w 14 [some (.ref x0), some (.int (nI i)), some (.ref x1), some (.ref x2), some (.int (nI a)), some (.int (zb (yex (yr S a m) i k))), some (.int (nI k))] [] (zmk A B S T r0) 2 12 := by
    intro j
    induction j with
    | zero =>
      intro k hk
      refine hw 60 _ _ _ _ _ _ ?_
      simp only [za_lv_0, za_lv_s, za_isI_i, za_rf_r, za_rf_n, za_rf_v, za_ck_r, za_isC_eq, zs_f, zs_d, zs_iconst, zs_bipush, zs_sipush, zs_lconst, zs_null, zs_iload_n, zs_iload, zs_aload_n, zs_aload, za_iv_i, zs_iinc, zs_istore_n, zs_istore, zs_astore_n, zs_astore, zs_iadd, zs_isub, zs_imul, zs_iand, zs_ior, zs_ixor, zs_ishl, zs_ishr, zs_idiv, zs_irem, zs_lshl, zs_lshr, zs_land, zs_lor, zs_lstore, za_lg_0, za_lg_s, za_ll_s, za_lc_s, zs_lload_n, zs_lload, zs_ldc, zs_i2l, zs_lcmp, zs_dup, zs_dup_x1, zs_dup2, zs_pop, zs_goto, zs_icmp, zs_ifc, zs_nonnull, zs_acmp_eq, zs_acmp_ne, za_sw_s, zs_switch, za_iaload_s, zs_iaload, za_baload_s, zs_baload, za_laload_s, zs_laload, za_aaload_s, zs_aaload, za_iastore_s, zs_iastore, za_bastore_s, zs_bastore, za_lastore_s, zs_lastore, za_aasN_s, zs_aastoreN, za_aas_s, zs_aastore, za_alg_s, za_alg_n, zs_alen, za_gf_s, za_vl_0, za_vl_s, zs_getfield, za_pf_s, zs_putfield, za_nw_s, za_nw_t, za_tx_1, za_tx_2, zs_th, zs_new, zs_newarray, za_cx_s, zs_checkcast, za_vB_s, za_vA_s, za_sX_s, za_sN_s, za_sA_5, za_sA_6, za_sA_1, za_sA_3, za_oB_s, za_iA_2, za_iA_4, zs_invokevirtual, zs_invokestatic, zs_invokespecial, zs_ireturn, zs_return, zs_areturn, zs_areturnA, za_ex0, za_go_eq, za_fit_i, za_fit_b, za_fit_b0, za_fit_b1, za_fit_r, za_fit_n, za_fit_a, za_up_s, za_upup, za_fn_0, za_fn_1, za_fn_2, za_fn_3, za_cd_eq, za_cd_ne, za_cd_lt, za_cd_ge, za_cd_gt, za_cd_le, za_cat_i, za_cat_r, za_cat_n, zb_n0, zb_n1, zb_narrow, zn_narrow, Option.toList_some, Option.toList_none, List.set_cons_zero, List.set_cons_succ, List.length_cons, List.length_nil, List.take_succ_cons, List.take_zero, List.drop_succ_cons, List.drop_zero, List.reverse_cons, List.reverse_nil, List.nil_append, List.cons_append, List.map_cons, List.map_nil, List.replicate_succ, List.replicate_zero, true_and, and_true, true_or, or_true, false_or, or_false, eq_self, not_true_eq_false, not_false_eq_true, false_implies, true_implies, implies_true, and_self, Nat.zero_add, Nat.add_zero, Nat.le_refl, Nat.zero_le, Nat.reduceEqDiff, if_true, if_false, za_t.eq_1, za_t0.eq_1, Int.cast_ofNat_Int, Int.reduceAdd, Int.reduceToNat, Int.reduceLE, Int.reduceNeg, Nat.reduceAdd, Nat.reduceSub, Nat.reduceBEq, Nat.reduceLT, Nat.reduceLeDiff, ↓reduceIte, Bool.false_eq_true, Bool.or_false, Bool.or_true, Bool.false_or, Bool.true_or, decide_true, decide_false, ge_iff_le, gt_iff_lt, dL_note_0, dL_note_1, dL_note_2, dL_note_3, dL_note_6, dL_note_8, dL_note_9, dL_note_11, dL_note_12, dL_note_14, dL_note_16, dL_note_17, dL_note_19, dL_note_20, dL_note_23, dL_note_25, dL_note_28, dL_note_29, dL_note_31, dL_note_33, dL_note_34, dL_note_36, dL_note_37, dL_note_38, dL_note_39, dL_note_42, dL_note_43, dL_note_46, dL_note_47, dL_note_49, dL_note_52, dL_note_55, dL_note_57, dL_note_60, dL_note_61, dL_note_63, dL_note_65, dL_note_66, dL_note_67, dL_note_69, dL_note_70, dL_note_71, dL_note_72, dL_note_73, dL_note_74, dL_note_76, dL_note_77, dL_note_78, dL_note_79, dL_note_80, dL_note_81, uL_m9, zi_b24, zi_i0, zi_i1, hx2, ca, va, N2]
      refine ⟨fun _ => fin _ _ (by rw [show k = yc S a m by omega]), fun z => absurd (nI_le (show yc S a m ≤ k by omega) (by omega)) z⟩
    | succ j ih =>
      intro k hk
      have ck : (nI (24 * a + k)).toNatClampNeg = 24 * a + k := zq_c (by omega)
      have vk : vp_in (nI (24 * a + k)) 48 := zn_in (by omega) (by omega)
      have hr := N3 k (by omega)
      have hrb := cb2 k (by omega)
      refine hw 60 _ _ _ _ _ _ ?_
      simp only [za_lv_0, za_lv_s, za_isI_i, za_rf_r, za_rf_n, za_rf_v, za_ck_r, za_isC_eq, zs_f, zs_d, zs_iconst, zs_bipush, zs_sipush, zs_lconst, zs_null, zs_iload_n, zs_iload, zs_aload_n, zs_aload, za_iv_i, zs_iinc, zs_istore_n, zs_istore, zs_astore_n, zs_astore, zs_iadd, zs_isub, zs_imul, zs_iand, zs_ior, zs_ixor, zs_ishl, zs_ishr, zs_idiv, zs_irem, zs_lshl, zs_lshr, zs_land, zs_lor, zs_lstore, za_lg_0, za_lg_s, za_ll_s, za_lc_s, zs_lload_n, zs_lload, zs_ldc, zs_i2l, zs_lcmp, zs_dup, zs_dup_x1, zs_dup2, zs_pop, zs_goto, zs_icmp, zs_ifc, zs_nonnull, zs_acmp_eq, zs_acmp_ne, za_sw_s, zs_switch, za_iaload_s, zs_iaload, za_baload_s, zs_baload, za_laload_s, zs_laload, za_aaload_s, zs_aaload, za_iastore_s, zs_iastore, za_bastore_s, zs_bastore, za_lastore_s, zs_lastore, za_aasN_s, zs_aastoreN, za_aas_s, zs_aastore, za_alg_s, za_alg_n, zs_alen, za_gf_s, za_vl_0, za_vl_s, zs_getfield, za_pf_s, zs_putfield, za_nw_s, za_nw_t, za_tx_1, za_tx_2, zs_th, zs_new, zs_newarray, za_cx_s, zs_checkcast, za_vB_s, za_vA_s, za_sX_s, za_sN_s, za_sA_5, za_sA_6, za_sA_1, za_sA_3, za_oB_s, za_iA_2, za_iA_4, zs_invokevirtual, zs_invokestatic, zs_invokespecial, zs_ireturn, zs_return, zs_areturn, zs_areturnA, za_ex0, za_go_eq, za_fit_i, za_fit_b, za_fit_b0, za_fit_b1, za_fit_r, za_fit_n, za_fit_a, za_up_s, za_upup, za_fn_0, za_fn_1, za_fn_2, za_fn_3, za_cd_eq, za_cd_ne, za_cd_lt, za_cd_ge, za_cd_gt, za_cd_le, za_cat_i, za_cat_r, za_cat_n, zb_n0, zb_n1, zb_narrow, zn_narrow, Option.toList_some, Option.toList_none, List.set_cons_zero, List.set_cons_succ, List.length_cons, List.length_nil, List.take_succ_cons, List.take_zero, List.drop_succ_cons, List.drop_zero, List.reverse_cons, List.reverse_nil, List.nil_append, List.cons_append, List.map_cons, List.map_nil, List.replicate_succ, List.replicate_zero, true_and, and_true, true_or, or_true, false_or, or_false, eq_self, not_true_eq_false, not_false_eq_true, false_implies, true_implies, implies_true, and_self, Nat.zero_add, Nat.add_zero, Nat.le_refl, Nat.zero_le, Nat.reduceEqDiff, if_true, if_false, za_t.eq_1, za_t0.eq_1, Int.cast_ofNat_Int, Int.reduceAdd, Int.reduceToNat, Int.reduceLE, Int.reduceNeg, Nat.reduceAdd, Nat.reduceSub, Nat.reduceBEq, Nat.reduceLT, Nat.reduceLeDiff, ↓reduceIte, Bool.false_eq_true, Bool.or_false, Bool.or_true, Bool.false_or, Bool.true_or, decide_true, decide_false, ge_iff_le, gt_iff_lt, dL_note_0, dL_note_1, dL_note_2, dL_note_3, dL_note_6, dL_note_8, dL_note_9, dL_note_11, dL_note_12, dL_note_14, dL_note_16, dL_note_17, dL_note_19, dL_note_20, dL_note_23, dL_note_25, dL_note_28, dL_note_29, dL_note_31, dL_note_33, dL_note_34, dL_note_36, dL_note_37, dL_note_38, dL_note_39, dL_note_42, dL_note_43, dL_note_46, dL_note_47, dL_note_49, dL_note_52, dL_note_55, dL_note_57, dL_note_60, dL_note_61, dL_note_63, dL_note_65, dL_note_66, dL_note_67, dL_note_69, dL_note_70, dL_note_71, dL_note_72, dL_note_73, dL_note_74, dL_note_76, dL_note_77, dL_note_78, dL_note_79, dL_note_80, dL_note_81, uL_m9, zi_b24, zi_i0, zi_i1, hx2, hx1, ca, va, N2, pk_mul, nI_add, ck, vk, hr, zb_eq0]
      simp (disch := omega) only [zn_eq, zn_le]
      have ih := ih (k + 1) (by omega)
      unfold yex at ih
      refine ⟨fun z => by omega, fun _ => ⟨fun z => ?_, fun z => ⟨fun z2 => ?_, fun z2 => ?_⟩⟩⟩
      · rw [Bool.not_eq_false] at z
        rw [z, Bool.true_or] at ih
        exact ih
      · rw [Decidable.not_not] at z
        rw [z, decide_eq_false z2, Bool.false_or] at ih
        exact ih
      · rw [Decidable.not_not] at z2
        rw [decide_eq_true z2, Bool.or_true] at ih
        exact ih
  refine hw 60 _ _ _ _ _ _ ?_
  simp only [za_lv_0, za_lv_s, za_isI_i, za_rf_r, za_rf_n, za_rf_v, za_ck_r, za_isC_eq, zs_f, zs_d, zs_iconst, zs_bipush, zs_sipush, zs_lconst, zs_null, zs_iload_n, zs_iload, zs_aload_n, zs_aload, za_iv_i, zs_iinc, zs_istore_n, zs_istore, zs_astore_n, zs_astore, zs_iadd, zs_isub, zs_imul, zs_iand, zs_ior, zs_ixor, zs_ishl, zs_ishr, zs_idiv, zs_irem, zs_lshl, zs_lshr, zs_land, zs_lor, zs_lstore, za_lg_0, za_lg_s, za_ll_s, za_lc_s, zs_lload_n, zs_lload, zs_ldc, zs_i2l, zs_lcmp, zs_dup, zs_dup_x1, zs_dup2, zs_pop, zs_goto, zs_icmp, zs_ifc, zs_nonnull, zs_acmp_eq, zs_acmp_ne, za_sw_s, zs_switch, za_iaload_s, zs_iaload, za_baload_s, zs_baload, za_laload_s, zs_laload, za_aaload_s, zs_aaload, za_iastore_s, zs_iastore, za_bastore_s, zs_bastore, za_lastore_s, zs_lastore, za_aasN_s, zs_aastoreN, za_aas_s, zs_aastore, za_alg_s, za_alg_n, zs_alen, za_gf_s, za_vl_0, za_vl_s, zs_getfield, za_pf_s, zs_putfield, za_nw_s, za_nw_t, za_tx_1, za_tx_2, zs_th, zs_new, zs_newarray, za_cx_s, zs_checkcast, za_vB_s, za_vA_s, za_sX_s, za_sN_s, za_sA_5, za_sA_6, za_sA_1, za_sA_3, za_oB_s, za_iA_2, za_iA_4, zs_invokevirtual, zs_invokestatic, zs_invokespecial, zs_ireturn, zs_return, zs_areturn, zs_areturnA, za_ex0, za_go_eq, za_fit_i, za_fit_b, za_fit_b0, za_fit_b1, za_fit_r, za_fit_n, za_fit_a, za_up_s, za_upup, za_fn_0, za_fn_1, za_fn_2, za_fn_3, za_cd_eq, za_cd_ne, za_cd_lt, za_cd_ge, za_cd_gt, za_cd_le, za_cat_i, za_cat_r, za_cat_n, zb_n0, zb_n1, zb_narrow, zn_narrow, Option.toList_some, Option.toList_none, List.set_cons_zero, List.set_cons_succ, List.length_cons, List.length_nil, List.take_succ_cons, List.take_zero, List.drop_succ_cons, List.drop_zero, List.reverse_cons, List.reverse_nil, List.nil_append, List.cons_append, List.map_cons, List.map_nil, List.replicate_succ, List.replicate_zero, true_and, and_true, true_or, or_true, false_or, or_false, eq_self, not_true_eq_false, not_false_eq_true, false_implies, true_implies, implies_true, and_self, Nat.zero_add, Nat.add_zero, Nat.le_refl, Nat.zero_le, Nat.reduceEqDiff, if_true, if_false, za_t.eq_1, za_t0.eq_1, Int.cast_ofNat_Int, Int.reduceAdd, Int.reduceToNat, Int.reduceLE, Int.reduceNeg, Nat.reduceAdd, Nat.reduceSub, Nat.reduceBEq, Nat.reduceLT, Nat.reduceLeDiff, ↓reduceIte, Bool.false_eq_true, Bool.or_false, Bool.or_true, Bool.false_or, Bool.true_or, decide_true, decide_false, ge_iff_le, gt_iff_lt, dL_note_0, dL_note_1, dL_note_2, dL_note_3, dL_note_6, dL_note_8, dL_note_9, dL_note_11, dL_note_12, dL_note_14, dL_note_16, dL_note_17, dL_note_19, dL_note_20, dL_note_23, dL_note_25, dL_note_28, dL_note_29, dL_note_31, dL_note_33, dL_note_34, dL_note_36, dL_note_37, dL_note_38, dL_note_39, dL_note_42, dL_note_43, dL_note_46, dL_note_47, dL_note_49, dL_note_52, dL_note_55, dL_note_57, dL_note_60, dL_note_61, dL_note_63, dL_note_65, dL_note_66, dL_note_67, dL_note_69, dL_note_70, dL_note_71, dL_note_72, dL_note_73, dL_note_74, dL_note_76, dL_note_77, dL_note_78, dL_note_79, dL_note_80, dL_note_81, uL_m9, zi_b24, zi_i0, zi_i1, hx0, zc_0]
  refine za_call (mc' := 2) (ms' := 12) (by omega) (by omega) (y_ofItem F L hi10 (by omega) _ ?_)
  simp only [za_lv_0, za_lv_s, za_isI_i, za_rf_r, za_rf_n, za_rf_v, za_ck_r, za_isC_eq, zs_f, zs_d, zs_iconst, zs_bipush, zs_sipush, zs_lconst, zs_null, zs_iload_n, zs_iload, zs_aload_n, zs_aload, za_iv_i, zs_iinc, zs_istore_n, zs_istore, zs_astore_n, zs_astore, zs_iadd, zs_isub, zs_imul, zs_iand, zs_ior, zs_ixor, zs_ishl, zs_ishr, zs_idiv, zs_irem, zs_lshl, zs_lshr, zs_land, zs_lor, zs_lstore, za_lg_0, za_lg_s, za_ll_s, za_lc_s, zs_lload_n, zs_lload, zs_ldc, zs_i2l, zs_lcmp, zs_dup, zs_dup_x1, zs_dup2, zs_pop, zs_goto, zs_icmp, zs_ifc, zs_nonnull, zs_acmp_eq, zs_acmp_ne, za_sw_s, zs_switch, za_iaload_s, zs_iaload, za_baload_s, zs_baload, za_laload_s, zs_laload, za_aaload_s, zs_aaload, za_iastore_s, zs_iastore, za_bastore_s, zs_bastore, za_lastore_s, zs_lastore, za_aasN_s, zs_aastoreN, za_aas_s, zs_aastore, za_alg_s, za_alg_n, zs_alen, za_gf_s, za_vl_0, za_vl_s, zs_getfield, za_pf_s, zs_putfield, za_nw_s, za_nw_t, za_tx_1, za_tx_2, zs_th, zs_new, zs_newarray, za_cx_s, zs_checkcast, za_vB_s, za_vA_s, za_sX_s, za_sN_s, za_sA_5, za_sA_6, za_sA_1, za_sA_3, za_oB_s, za_iA_2, za_iA_4, zs_invokevirtual, zs_invokestatic, zs_invokespecial, zs_ireturn, zs_return, zs_areturn, zs_areturnA, za_ex0, za_go_eq, za_fit_i, za_fit_b, za_fit_b0, za_fit_b1, za_fit_r, za_fit_n, za_fit_a, za_up_s, za_upup, za_fn_0, za_fn_1, za_fn_2, za_fn_3, za_cd_eq, za_cd_ne, za_cd_lt, za_cd_ge, za_cd_gt, za_cd_le, za_cat_i, za_cat_r, za_cat_n, zb_n0, zb_n1, zb_narrow, zn_narrow, Option.toList_some, Option.toList_none, List.set_cons_zero, List.set_cons_succ, List.length_cons, List.length_nil, List.take_succ_cons, List.take_zero, List.drop_succ_cons, List.drop_zero, List.reverse_cons, List.reverse_nil, List.nil_append, List.cons_append, List.map_cons, List.map_nil, List.replicate_succ, List.replicate_zero, true_and, and_true, true_or, or_true, false_or, or_false, eq_self, not_true_eq_false, not_false_eq_true, false_implies, true_implies, implies_true, and_self, Nat.zero_add, Nat.add_zero, Nat.le_refl, Nat.zero_le, Nat.reduceEqDiff, if_true, if_false, za_t.eq_1, za_t0.eq_1, Int.cast_ofNat_Int, Int.reduceAdd, Int.reduceToNat, Int.reduceLE, Int.reduceNeg, Nat.reduceAdd, Nat.reduceSub, Nat.reduceBEq, Nat.reduceLT, Nat.reduceLeDiff, ↓reduceIte, Bool.false_eq_true, Bool.or_false, Bool.or_true, Bool.false_or, Bool.true_or, decide_true, decide_false, ge_iff_le, gt_iff_lt, dL_note_0, dL_note_1, dL_note_2, dL_note_3, dL_note_6, dL_note_8, dL_note_9, dL_note_11, dL_note_12, dL_note_14, dL_note_16, dL_note_17, dL_note_19, dL_note_20, dL_note_23, dL_note_25, dL_note_28, dL_note_29, dL_note_31, dL_note_33, dL_note_34, dL_note_36, dL_note_37, dL_note_38, dL_note_39, dL_note_42, dL_note_43, dL_note_46, dL_note_47, dL_note_49, dL_note_52, dL_note_55, dL_note_57, dL_note_60, dL_note_61, dL_note_63, dL_note_65, dL_note_66, dL_note_67, dL_note_69, dL_note_70, dL_note_71, dL_note_72, dL_note_73, dL_note_74, dL_note_76, dL_note_77, dL_note_78, dL_note_79, dL_note_80, dL_note_81, uL_m9, zi_b24, zi_i0, zi_i1]
  rw [show zofi S i 0 = a from ea]
  exact loop (yc S a m) 0 (by omega)
end YLB2
