/-! THE CALLS (21): poll -/
def sp_poll (S : zS) (x : Int32) : Nat × Int32 × zS :=
  if ¬ (0 ≤ x.toInt ∧ x.toInt < S 12 0 0) then (1, nI 0, S) else (0, nI (zpl S x.toInt.toNat (S 39 x.toInt.toNat 0) (S 11 0 0 - S 39 x.toInt.toNat 0) 16 x.toInt.toNat 0), zpoll S x.toInt.toNat)
section ZRY
variable {G : za_G} {A : zA} {B : zB} {S Sx : zS} {T : zT} {r0 : za_H}
theorem zpl_b {a s : Nat} : ∀ j i, (zpm S a s j).testBit i = true ↔ ∃ k, k < zpl S a s j 16 a 0 ∧ zpl S a s j 21 a k = i := by
  intro j
  induction j with
  | zero =>
    intro i
    rw [show zpm S a s 0 = 0 from rfl, Nat.zero_testBit, show zpl S a s 0 16 a 0 = 0 from zup_s _ _ _ _ _]
    exact ⟨fun h => (by cases h), fun ⟨k, h, _⟩ => by omega⟩
  | succ j ih =>
    intro i
    have em : zpm S a s (j + 1) = if S 35 (S 20 (s + j) 0) 0 = S 38 a 0 ∧ (zpm S a s j).testBit (S 20 (s + j) 0) = false then zpm S a s j ||| 2 ^ (S 20 (s + j) 0) else zpm S a s j := rfl
    have el : zpl S a s (j + 1) = if S 35 (S 20 (s + j) 0) 0 = S 38 a 0 ∧ (zpm S a s j).testBit (S 20 (s + j) 0) = false then ztd (zpl S a s j) a (S 20 (s + j) 0) else zpl S a s j := rfl
    rw [em, el]
    by_cases z : S 35 (S 20 (s + j) 0) 0 = S 38 a 0 ∧ (zpm S a s j).testBit (S 20 (s + j) 0) = false
    · rw [if_pos z, if_pos z, zor_t, Bool.or_eq_true, ih i, decide_eq_true_iff]
      have e16 : ztd (zpl S a s j) a (S 20 (s + j) 0) 16 a 0 = zpl S a s j 16 a 0 + 1 := zup_s _ _ _ _ _
      have e21 : ∀ k, ztd (zpl S a s j) a (S 20 (s + j) 0) 21 a k = if k = zpl S a s j 16 a 0 then S 20 (s + j) 0 else zpl S a s j 21 a k := fun k => by
        unfold ztd
        rw [zup_o _ (by omega)]
        by_cases y : k = zpl S a s j 16 a 0
        · subst y; rw [zup_s, if_pos rfl]
        · rw [zup_n _ (fun w => y w.2.2), if_neg y]
      rw [e16]
      constructor
      · rintro (⟨k, h1, h2⟩ | h)
        · exact ⟨k, by omega, by rw [e21, if_neg (by omega)]; exact h2⟩
        · exact ⟨zpl S a s j 16 a 0, by omega, by rw [e21, if_pos rfl]; exact h.symm⟩
      · rintro ⟨k, h1, h2⟩
        rw [e21] at h2
        by_cases y : k = zpl S a s j 16 a 0
        · rw [if_pos y] at h2; exact Or.inr h2.symm
        · rw [if_neg y] at h2; exact Or.inl ⟨k, by omega, h2⟩
    · rw [if_neg z, if_neg z]; exact ih i
theorem zR_clr (R : zR S T) {a : Nat} (ha : a < S 12 0 0) (h6 : S 12 0 0 ≤ 6) : zR (zup S 16 a 0 0) (ztu T 21 (upd (T.1 21) a (nI 0))) := by
  have hfo : ∀ f, f ∉ [16] → zup S 16 a 0 0 f = S f := fun f hf => zup_o S (fun y => hf (by rw [y]; exact List.mem_singleton.mpr rfl))
  have hT : ∀ k, k ∉ [21] → (ztu T 21 (upd (T.1 21) a (nI 0))).1 k = T.1 k := fun k hk => ztu_ne _ _ (fun y => hk (by rw [y]; exact List.mem_singleton.mpr rfl))
  refine ⟨zR_go R.1 [16] [21] [21, 22] hfo hT (by decide) ?_, fun d s hd hs => ?_⟩
  · intro k hk
    simp only [List.mem_cons, List.not_mem_nil, or_false] at hk
    rcases hk with rfl | rfl
    · show ∀ b, b < 6 → (ztu T 21 (upd (T.1 21) a (nI 0))).1 21 b = nI (if b < zup S 16 a 0 0 12 0 0 then zup S 16 a 0 0 16 b 0 else 0)
      rw [ztu_s, hfo 12 (by decide)]
      intro b hb
      by_cases z : b = a
      · subst z; rw [zupd_s, zup_s, if_pos ha]
      · rw [zupd_n _ _ z, zup_n S (fun y => z y.2.1)]; exact zr_21 R b hb
    · show ∀ b j, b < zup S 16 a 0 0 12 0 0 → j < zup S 16 a 0 0 16 b 0 → (ztu T 21 (upd (T.1 21) a (nI 0))).1 22 (24 * b + j) = nI (zup S 16 a 0 0 21 b j)
      rw [hT 22 (by decide), hfo 12 (by decide), hfo 21 (by decide)]
      intro b j hb hj
      by_cases z : b = a
      · subst z; rw [zup_s] at hj; omega
      · rw [zup_n S (fun y => z y.2.1)] at hj; exact zr_22 R b j hb hj
  · rw [hfo 14 (by decide), hfo 3 (by decide), hfo 18 (by decide), zmr_T (hT 46 (by decide)) (hT 47 (by decide)) (hT 48 (by decide)), zld_S (hfo 59 (by decide)) (hfo 60 (by decide))]
    exact R.2 d s hd hs
theorem zR_td (R : zR S T) {a i : Nat} (ha : a < S 12 0 0) (h6 : S 12 0 0 ≤ 6) (h16 : ∀ b, b < S 12 0 0 → S 16 b 0 ≤ 24) (hn : S 16 a 0 < 24) : zR (ztd S a i) (ztu (ztu T 22 (upd (T.1 22) (24 * a + S 16 a 0) (nI i))) 21 (upd (T.1 21) a (nI (S 16 a 0 + 1)))) := by
  have hfo : ∀ f, f ∉ [21, 16] → ztd S a i f = S f := fun f hf => by
    simp only [List.mem_cons, List.not_mem_nil, or_false, not_or] at hf
    exact ztd_o S a i hf.1 hf.2
  have hT : ∀ k, k ∉ [21, 22] → (ztu (ztu T 22 (upd (T.1 22) (24 * a + S 16 a 0) (nI i))) 21 (upd (T.1 21) a (nI (S 16 a 0 + 1)))).1 k = T.1 k := fun k hk => by
    simp only [List.mem_cons, List.not_mem_nil, or_false, not_or] at hk
    rw [ztu_ne _ _ hk.1, ztu_ne _ _ hk.2]
  have e16 : ∀ b, ztd S a i 16 b 0 = if b = a then S 16 a 0 + 1 else S 16 b 0 := fun b => by
    unfold ztd
    by_cases z : b = a
    · subst z; rw [zup_s, if_pos rfl]
    · rw [zup_n _ (fun y => z y.2.1), zup_o _ (by omega), if_neg z]
  have e21 : ∀ b j, ztd S a i 21 b j = if b = a ∧ j = S 16 a 0 then i else S 21 b j := fun b j => by
    unfold ztd
    rw [zup_o _ (by omega)]
    by_cases z : b = a ∧ j = S 16 a 0
    · obtain ⟨rfl, rfl⟩ := z; rw [zup_s, if_pos ⟨rfl, rfl⟩]
    · rw [zup_n _ (fun y => z y.2), if_neg z]
  generalize ztd S a i = S' at *
  refine ⟨zR_go R.1 [21, 16] [21, 22] [21, 22] hfo hT (by decide) ?_, fun d s hd hs => ?_⟩
  · intro k hk
    simp only [List.mem_cons, List.not_mem_nil, or_false] at hk
    rcases hk with rfl | rfl
    · show ∀ b, b < 6 → (ztu (ztu T 22 (upd (T.1 22) (24 * a + S 16 a 0) (nI i))) 21 (upd (T.1 21) a (nI (S 16 a 0 + 1)))).1 21 b = nI (if b < S' 12 0 0 then S' 16 b 0 else 0)
      rw [ztu_s, hfo 12 (by decide)]
      intro b hb
      rw [e16]
      by_cases z : b = a
      · subst z; rw [zupd_s, if_pos ha, if_pos rfl]
      · rw [zupd_n _ _ z, if_neg z]; exact zr_21 R b hb
    · show ∀ b j, b < S' 12 0 0 → j < S' 16 b 0 → (ztu (ztu T 22 (upd (T.1 22) (24 * a + S 16 a 0) (nI i))) 21 (upd (T.1 21) a (nI (S 16 a 0 + 1)))).1 22 (24 * b + j) = nI (S' 21 b j)
      rw [ztu_ne _ _ (by omega), ztu_s, hfo 12 (by decide)]
      intro b j hb hj
      have hb24 := h16 b hb
      rw [e16] at hj
      rw [e21]
      by_cases z : b = a ∧ j = S 16 a 0
      · obtain ⟨rfl, rfl⟩ := z; rw [zupd_s, if_pos ⟨rfl, rfl⟩]
      · have hj' : j < S 16 b 0 := by
          by_cases y : b = a
          · subst y; rw [if_pos rfl] at hj; omega
          · rw [if_neg y] at hj; exact hj
        rw [zupd_n _ _ (by omega), if_neg z]; exact zr_22 R b j hb hj'
  · rw [hfo 14 (by decide), hfo 3 (by decide), hfo 18 (by decide), zmr_T (hT 46 (by decide)) (hT 47 (by decide)) (hT 48 (by decide)), zld_S (hfo 59 (by decide)) (hfo 60 (by decide))]
    exact R.2 d s hd hs
theorem zV_pl (V : zinv S) {a s : Nat} (ha : a < S 12 0 0) : ∀ j, s + j ≤ S 11 0 0 → zinv (zpl S a s j) := by
  intro j
  obtain ⟨g1, g2, g3, g4, g5⟩ := zv_2 V
  induction j with
  | zero =>
    intro _
    refine ⟨zH_zup V.1 (by omega), zv_go V.2 [16] [11] (fun f hf => zup_o S (fun y => hf (by rw [y]; exact List.mem_singleton.mpr rfl))) (by decide) ?_⟩
    intro k hk
    simp only [List.mem_cons, List.not_mem_nil, or_false] at hk
    subst hk
    show ∀ b, b < zup S 16 a 0 0 12 0 0 → zup S 16 a 0 0 39 b 0 ≤ zup S 16 a 0 0 11 0 0 ∧ zup S 16 a 0 0 16 b 0 ≤ 24 ∧ ∀ j, j < zup S 16 a 0 0 16 b 0 → zup S 16 a 0 0 21 b j < zup S 16 a 0 0 10 0 0
    rw [zup_o S (show (12 : Nat) ≠ 16 by omega), zup_o S (show (39 : Nat) ≠ 16 by omega), zup_o S (show (11 : Nat) ≠ 16 by omega), zup_o S (show (21 : Nat) ≠ 16 by omega), zup_o S (show (10 : Nat) ≠ 16 by omega)]
    intro b hb
    obtain ⟨p1, p2, p3⟩ := zv_11 V b hb
    by_cases z : b = a
    · subst z; rw [zup_s]; exact ⟨p1, by omega, fun j hj => by omega⟩
    · rw [zup_n S (fun y => z y.2.1)]; exact ⟨p1, p2, p3⟩
  | succ j ih =>
    intro hj
    have ih := ih (by omega)
    have h20 : ∀ k, k < s + (j + 1) → S 20 k 0 < 24 := fun k hk => by have := zv_10 V k (by omega); omega
    have e16 := zpl_16 (S := S) (a := a) (s := s) (k := j + 1) h20
    have hc := zpc_le (zpm S a s (j + 1)) 24
    have el : zpl S a s (j + 1) = if S 35 (S 20 (s + j) 0) 0 = S 38 a 0 ∧ (zpm S a s j).testBit (S 20 (s + j) 0) = false then ztd (zpl S a s j) a (S 20 (s + j) 0) else zpl S a s j := rfl
    by_cases z : S 35 (S 20 (s + j) 0) 0 = S 38 a 0 ∧ (zpm S a s j).testBit (S 20 (s + j) 0) = false
    · rw [if_pos z] at el
      rw [el] at e16 ⊢
      have hi := zv_10 V (s + j) (by omega)
      have u10 : zpl S a s j 10 = S 10 := zpl_o S a s j (by omega) (by omega)
      rw [← u10] at hi
      have ha' : a < zpl S a s j 12 0 0 := by rw [zpl_o S a s j (by omega) (by omega)]; exact ha
      generalize zpl S a s j = S1 at *
      have h16 : ztd S1 a (S 20 (s + j) 0) 16 a 0 = S1 16 a 0 + 1 := zup_s _ _ _ _ _
      have f16 : ∀ b, b ≠ a → ztd S1 a (S 20 (s + j) 0) 16 b 0 = S1 16 b 0 := fun b hb => by unfold ztd; rw [zup_n _ (fun y => hb y.2.1), zup_o _ (by omega)]
      have f21 : ∀ b k, ztd S1 a (S 20 (s + j) 0) 21 b k = if b = a ∧ k = S1 16 a 0 then S 20 (s + j) 0 else S1 21 b k := fun b k => by
        unfold ztd
        rw [zup_o _ (by omega)]
        by_cases z : b = a ∧ k = S1 16 a 0
        · obtain ⟨rfl, rfl⟩ := z; rw [zup_s, if_pos ⟨rfl, rfl⟩]
        · rw [zup_n _ (fun y => z y.2), if_neg z]
      have b20 := h20 (s + j) (by omega)
      refine ⟨zH_zup (zH_zup ih.1 (by omega)) (by omega), zv_go ih.2 [21, 16] [11] (fun f hf => by
        simp only [List.mem_cons, List.not_mem_nil, or_false, not_or] at hf
        exact ztd_o _ _ _ hf.1 hf.2) (by decide) ?_⟩
      intro k hk
      simp only [List.mem_cons, List.not_mem_nil, or_false] at hk
      subst hk
      show ∀ b, b < ztd S1 a (S 20 (s + j) 0) 12 0 0 → ztd S1 a (S 20 (s + j) 0) 39 b 0 ≤ ztd S1 a (S 20 (s + j) 0) 11 0 0 ∧ ztd S1 a (S 20 (s + j) 0) 16 b 0 ≤ 24 ∧ ∀ k, k < ztd S1 a (S 20 (s + j) 0) 16 b 0 → ztd S1 a (S 20 (s + j) 0) 21 b k < ztd S1 a (S 20 (s + j) 0) 10 0 0
      rw [ztd_o _ _ _ (show (12 : Nat) ≠ 21 by omega) (by omega), ztd_o _ _ _ (show (39 : Nat) ≠ 21 by omega) (by omega), ztd_o _ _ _ (show (11 : Nat) ≠ 21 by omega) (by omega), ztd_o _ _ _ (show (10 : Nat) ≠ 21 by omega) (by omega)]
      intro b hb
      obtain ⟨p1, p2, p3⟩ := zv_11 ih b hb
      by_cases y : b = a
      · subst y
        rw [h16] at e16 ⊢
        refine ⟨p1, by omega, fun k hk => ?_⟩
        rw [f21]
        by_cases w : k = S1 16 b 0
        · rw [if_pos ⟨rfl, w⟩]; exact hi
        · rw [if_neg (fun x => w x.2)]; exact p3 k (by omega)
      · rw [f16 b y]
        refine ⟨p1, p2, fun k hk => ?_⟩
        rw [f21, if_neg (fun x => y x.1)]
        exact p3 k hk
    · rw [if_neg z] at el
      rw [el]; exact ih
/-- whether one of the first k told items of a is i -/
def zwt (S : zS) (a i : Nat) : Nat → Bool
  | 0 => false
  | k + 1 => zwt S a i k || decide (S 21 a k = i)
theorem zwt_t (S : zS) (a i : Nat) : ∀ n, zwt S a i n = true ↔ ∃ k, k < n ∧ S 21 a k = i := by
  intro n
  induction n with
  | zero => exact ⟨fun h => (by cases h), fun ⟨k, h, _⟩ => by omega⟩
  | succ n ih =>
    unfold zwt
    rw [Bool.or_eq_true, ih, decide_eq_true_iff]
    constructor
    · rintro (⟨k, h1, h2⟩ | h)
      · exact ⟨k, by omega, h2⟩
      · exact ⟨n, by omega, h⟩
    · rintro ⟨k, h1, h2⟩
      by_cases z : k = n
      · subst z; exact Or.inr h2
      · exact Or.inl ⟨k, by omega, h2⟩
set_option maxRecDepth 8192 in
theorem n_wasTold (F : za_F G) (M : zMo A B) (R : zR S T) (V : zinv S) {a i : Nat} (ha : a < S 12 0 0) (hi : i < 1000) (K : za_O → za_H → Prop) (q : K (.inl (some (.int (zb (zwt S a i (S 16 a 0)))))) (zmk A B Sx T r0)) : za_P G mX8_wasTold [.ref (A.1 (30, 0, 0)), .int (nI a), .int (nI i)] (zmk A B Sx T r0) 0 0 K := by
  obtain ⟨g1, g2, g3, g4, g5⟩ := zv_2 V
  obtain ⟨p1, p2, p3⟩ := zv_11 V a ha
  have h21 := zr_21 R a (by omega)
  rw [if_pos ha] at h21
  have v1 : vp_in (nI a) 6 := zn_in (by omega) (by omega)
  have c1 : (nI a).toNatClampNeg = a := zq_c (by omega)
  refine za_m (y := yX8_wasTold) (cc := cX8_wasTold) (nL := 5) (ret := (some .boolean)) (hh := []) (fr := 0) (lk := lkX8) (hx := []) (ini := false) (cuts := fun p => p == 5) F okX8 trivial (by decide +kernel) (by decide +kernel) (Nat.le_of_ble_eq_true rfl) (by simp [Value.category]) (fun w hw => ?_)
  have loop : ∀ n k, k + n = S 16 a 0 → w 5 [some (.ref (A.1 (30, 0, 0))), some (.int (nI a)), some (.int (nI i)), some (.int (zb (zwt S a i k))), some (.int (nI k))] [] (zmk A B Sx T r0) 0 0 := by
    intro n
    induction n with
    | zero =>
      intro k hk
      refine hw 60 _ _ _ _ _ _ ?_
      simp only [za_lv_0, za_lv_s, za_isI_i, za_rf_r, za_rf_n, za_rf_v, za_ck_r, za_isC_eq, zs_f, zs_d, zs_iconst, zs_bipush, zs_sipush, zs_lconst, zs_null, zs_iload_n, zs_iload, zs_aload_n, zs_aload, za_iv_i, zs_iinc, zs_istore_n, zs_istore, zs_astore_n, zs_astore, zs_iadd, zs_isub, zs_imul, zs_iand, zs_ior, zs_ixor, zs_ishl, zs_ishr, zs_idiv, zs_i2l, zs_lcmp, zs_dup, zs_dup_x1, zs_dup2, zs_pop, zs_goto, zs_icmp, zs_ifc, zs_nonnull, zs_acmp_eq, zs_acmp_ne, za_sw_s, zs_switch, za_iaload_s, zs_iaload, za_baload_s, zs_baload, za_laload_s, zs_laload, za_aaload_s, zs_aaload, za_iastore_s, zs_iastore, za_bastore_s, zs_bastore, za_lastore_s, zs_lastore, za_aasN_s, zs_aastoreN, za_aas_s, zs_aastore, za_alg_s, za_alg_n, zs_alen, za_gf_s, za_vl_0, za_vl_s, zs_getfield, za_pf_s, zs_putfield, za_nw_s, za_nw_t, za_tx_1, za_tx_2, zs_th, zs_new, zs_newarray, za_cx_s, zs_checkcast, za_vB_s, za_vA_s, za_sX_s, za_sN_s, za_sA_5, za_sA_6, za_sA_1, za_sA_3, za_oB_s, za_iA_2, za_iA_4, zs_invokevirtual, zs_invokestatic, zs_invokespecial, zs_ireturn, zs_return, zs_areturn, zs_areturnA, za_ex0, za_go_eq, za_fit_i, za_fit_b, za_fit_b0, za_fit_b1, za_fit_r, za_fit_n, za_fit_a, za_up_s, za_upup, za_fn_0, za_fn_1, za_fn_2, za_fn_3, za_cd_eq, za_cd_ne, za_cd_lt, za_cd_ge, za_cd_gt, za_cd_le, za_cat_i, za_cat_r, za_cat_n, zb_n0, zb_n1, zb_narrow, zn_narrow, Option.toList_some, Option.toList_none, List.set_cons_zero, List.set_cons_succ, List.length_cons, List.length_nil, List.take_succ_cons, List.take_zero, List.drop_succ_cons, List.drop_zero, List.reverse_cons, List.reverse_nil, List.nil_append, List.cons_append, List.map_cons, List.map_nil, List.replicate_succ, List.replicate_zero, true_and, and_true, true_or, or_true, false_or, or_false, eq_self, not_true_eq_false, not_false_eq_true, false_implies, true_implies, implies_true, and_self, Nat.zero_add, Nat.add_zero, Nat.le_refl, Nat.zero_le, Nat.reduceEqDiff, if_true, if_false, za_t.eq_1, za_t0.eq_1, Int.cast_ofNat_Int, Int.reduceAdd, Int.reduceToNat, Int.reduceLE, Int.reduceNeg, Nat.reduceAdd, Nat.reduceSub, Nat.reduceBEq, Nat.reduceLT, Nat.reduceLeDiff, ↓reduceIte, Bool.false_eq_true, Bool.or_false, Bool.or_true, Bool.false_or, Bool.true_or, decide_true, decide_false, ge_iff_le, gt_iff_lt, dX8_wasTold_0, dX8_wasTold_1, dX8_wasTold_2, dX8_wasTold_3, dX8_wasTold_5, dX8_wasTold_7, dX8_wasTold_8, dX8_wasTold_11, dX8_wasTold_12, dX8_wasTold_13, dX8_wasTold_16, dX8_wasTold_17, dX8_wasTold_20, dX8_wasTold_21, dX8_wasTold_24, dX8_wasTold_26, dX8_wasTold_27, dX8_wasTold_28, dX8_wasTold_30, dX8_wasTold_31, dX8_wasTold_32, dX8_wasTold_33, dX8_wasTold_36, dX8_wasTold_37, dX8_wasTold_40, dX8_wasTold_41, dX8_wasTold_42, dX8_wasTold_45, dX8_wasTold_48, dX8_wasTold_49, uX8_f59, uX8_f62, zi_b24, zi_i0, zi_i1, (zmo M), zM_len, ne_eq, ztu_ne, ztu_s, zfc_e, Nat.reduceMul, zM_21, (zml_21 M), (zmu_21 M), zM_22, (zml_22 M), (zmu_22 M), v1, c1, h21]
      rw [show k = S 16 a 0 by omega]
      exact ⟨fun _ => q, fun z => absurd (nI_le (Nat.le_refl _) (by omega)) z⟩
    | succ n ih =>
      intro k hk
      have h22 := zr_22 R a k ha (by omega)
      have b21 := V.1 21 a k
      have v2 : vp_in (nI (24 * a + k)) 144 := zn_in (by omega) (by omega)
      have c2 : (nI (24 * a + k)).toNatClampNeg = 24 * a + k := zq_c (by omega)
      have ih' := ih (k + 1) (by omega)
      unfold zwt at ih'
      refine hw 60 _ _ _ _ _ _ ?_
      simp only [za_lv_0, za_lv_s, za_isI_i, za_rf_r, za_rf_n, za_rf_v, za_ck_r, za_isC_eq, zs_f, zs_d, zs_iconst, zs_bipush, zs_sipush, zs_lconst, zs_null, zs_iload_n, zs_iload, zs_aload_n, zs_aload, za_iv_i, zs_iinc, zs_istore_n, zs_istore, zs_astore_n, zs_astore, zs_iadd, zs_isub, zs_imul, zs_iand, zs_ior, zs_ixor, zs_ishl, zs_ishr, zs_idiv, zs_i2l, zs_lcmp, zs_dup, zs_dup_x1, zs_dup2, zs_pop, zs_goto, zs_icmp, zs_ifc, zs_nonnull, zs_acmp_eq, zs_acmp_ne, za_sw_s, zs_switch, za_iaload_s, zs_iaload, za_baload_s, zs_baload, za_laload_s, zs_laload, za_aaload_s, zs_aaload, za_iastore_s, zs_iastore, za_bastore_s, zs_bastore, za_lastore_s, zs_lastore, za_aasN_s, zs_aastoreN, za_aas_s, zs_aastore, za_alg_s, za_alg_n, zs_alen, za_gf_s, za_vl_0, za_vl_s, zs_getfield, za_pf_s, zs_putfield, za_nw_s, za_nw_t, za_tx_1, za_tx_2, zs_th, zs_new, zs_newarray, za_cx_s, zs_checkcast, za_vB_s, za_vA_s, za_sX_s, za_sN_s, za_sA_5, za_sA_6, za_sA_1, za_sA_3, za_oB_s, za_iA_2, za_iA_4, zs_invokevirtual, zs_invokestatic, zs_invokespecial, zs_ireturn, zs_return, zs_areturn, zs_areturnA, za_ex0, za_go_eq, za_fit_i, za_fit_b, za_fit_b0, za_fit_b1, za_fit_r, za_fit_n, za_fit_a, za_up_s, za_upup, za_fn_0, za_fn_1, za_fn_2, za_fn_3, za_cd_eq, za_cd_ne, za_cd_lt, za_cd_ge, za_cd_gt, za_cd_le, za_cat_i, za_cat_r, za_cat_n, zb_n0, zb_n1, zb_narrow, zn_narrow, Option.toList_some, Option.toList_none, List.set_cons_zero, List.set_cons_succ, List.length_cons, List.length_nil, List.take_succ_cons, List.take_zero, List.drop_succ_cons, List.drop_zero, List.reverse_cons, List.reverse_nil, List.nil_append, List.cons_append, List.map_cons, List.map_nil, List.replicate_succ, List.replicate_zero, true_and, and_true, true_or, or_true, false_or, or_false, eq_self, not_true_eq_false, not_false_eq_true, false_implies, true_implies, implies_true, and_self, Nat.zero_add, Nat.add_zero, Nat.le_refl, Nat.zero_le, Nat.reduceEqDiff, if_true, if_false, za_t.eq_1, za_t0.eq_1, Int.cast_ofNat_Int, Int.reduceAdd, Int.reduceToNat, Int.reduceLE, Int.reduceNeg, Nat.reduceAdd, Nat.reduceSub, Nat.reduceBEq, Nat.reduceLT, Nat.reduceLeDiff, ↓reduceIte, Bool.false_eq_true, Bool.or_false, Bool.or_true, Bool.false_or, Bool.true_or, decide_true, decide_false, ge_iff_le, gt_iff_lt, dX8_wasTold_0, dX8_wasTold_1, dX8_wasTold_2, dX8_wasTold_3, dX8_wasTold_5, dX8_wasTold_7, dX8_wasTold_8, dX8_wasTold_11, dX8_wasTold_12, dX8_wasTold_13, dX8_wasTold_16, dX8_wasTold_17, dX8_wasTold_20, dX8_wasTold_21, dX8_wasTold_24, dX8_wasTold_26, dX8_wasTold_27, dX8_wasTold_28, dX8_wasTold_30, dX8_wasTold_31, dX8_wasTold_32, dX8_wasTold_33, dX8_wasTold_36, dX8_wasTold_37, dX8_wasTold_40, dX8_wasTold_41, dX8_wasTold_42, dX8_wasTold_45, dX8_wasTold_48, dX8_wasTold_49, uX8_f59, uX8_f62, zi_b24, zi_i0, zi_i1, (zmo M), zM_len, ne_eq, ztu_ne, ztu_s, zfc_e, Nat.reduceMul, zM_21, (zml_21 M), (zmu_21 M), zM_22, (zml_22 M), (zmu_22 M), v1, c1, h21, v2, c2, h22, pk_mul, nI_add, zb_eq0]
      simp (disch := omega) only [zn_eq]
      refine ⟨fun z => absurd z (nI_ge (by omega) (by omega)), fun _ => ⟨fun z => ?_, fun z => ⟨fun y => ?_, fun y => ?_⟩⟩⟩
      · rw [(Bool.not_eq_false _).mp z, Bool.true_or] at ih'; exact ih'
      · rw [Decidable.not_not.mp z, decide_eq_false y] at ih'; exact ih'
      · rw [Decidable.not_not.mp z, decide_eq_true (Decidable.not_not.mp y)] at ih'; exact ih'
  refine hw 60 _ _ _ _ _ _ ?_
  simp only [za_lv_0, za_lv_s, za_isI_i, za_rf_r, za_rf_n, za_rf_v, za_ck_r, za_isC_eq, zs_f, zs_d, zs_iconst, zs_bipush, zs_sipush, zs_lconst, zs_null, zs_iload_n, zs_iload, zs_aload_n, zs_aload, za_iv_i, zs_iinc, zs_istore_n, zs_istore, zs_astore_n, zs_astore, zs_iadd, zs_isub, zs_imul, zs_iand, zs_ior, zs_ixor, zs_ishl, zs_ishr, zs_idiv, zs_i2l, zs_lcmp, zs_dup, zs_dup_x1, zs_dup2, zs_pop, zs_goto, zs_icmp, zs_ifc, zs_nonnull, zs_acmp_eq, zs_acmp_ne, za_sw_s, zs_switch, za_iaload_s, zs_iaload, za_baload_s, zs_baload, za_laload_s, zs_laload, za_aaload_s, zs_aaload, za_iastore_s, zs_iastore, za_bastore_s, zs_bastore, za_lastore_s, zs_lastore, za_aasN_s, zs_aastoreN, za_aas_s, zs_aastore, za_alg_s, za_alg_n, zs_alen, za_gf_s, za_vl_0, za_vl_s, zs_getfield, za_pf_s, zs_putfield, za_nw_s, za_nw_t, za_tx_1, za_tx_2, zs_th, zs_new, zs_newarray, za_cx_s, zs_checkcast, za_vB_s, za_vA_s, za_sX_s, za_sN_s, za_sA_5, za_sA_6, za_sA_1, za_sA_3, za_oB_s, za_iA_2, za_iA_4, zs_invokevirtual, zs_invokestatic, zs_invokespecial, zs_ireturn, zs_return, zs_areturn, zs_areturnA, za_ex0, za_go_eq, za_fit_i, za_fit_b, za_fit_b0, za_fit_b1, za_fit_r, za_fit_n, za_fit_a, za_up_s, za_upup, za_fn_0, za_fn_1, za_fn_2, za_fn_3, za_cd_eq, za_cd_ne, za_cd_lt, za_cd_ge, za_cd_gt, za_cd_le, za_cat_i, za_cat_r, za_cat_n, zb_n0, zb_n1, zb_narrow, zn_narrow, Option.toList_some, Option.toList_none, List.set_cons_zero, List.set_cons_succ, List.length_cons, List.length_nil, List.take_succ_cons, List.take_zero, List.drop_succ_cons, List.drop_zero, List.reverse_cons, List.reverse_nil, List.nil_append, List.cons_append, List.map_cons, List.map_nil, List.replicate_succ, List.replicate_zero, true_and, and_true, true_or, or_true, false_or, or_false, eq_self, not_true_eq_false, not_false_eq_true, false_implies, true_implies, implies_true, and_self, Nat.zero_add, Nat.add_zero, Nat.le_refl, Nat.zero_le, Nat.reduceEqDiff, if_true, if_false, za_t.eq_1, za_t0.eq_1, Int.cast_ofNat_Int, Int.reduceAdd, Int.reduceToNat, Int.reduceLE, Int.reduceNeg, Nat.reduceAdd, Nat.reduceSub, Nat.reduceBEq, Nat.reduceLT, Nat.reduceLeDiff, ↓reduceIte, Bool.false_eq_true, Bool.or_false, Bool.or_true, Bool.false_or, Bool.true_or, decide_true, decide_false, ge_iff_le, gt_iff_lt, dX8_wasTold_0, dX8_wasTold_1, dX8_wasTold_2, dX8_wasTold_3, dX8_wasTold_5, dX8_wasTold_7, dX8_wasTold_8, dX8_wasTold_11, dX8_wasTold_12, dX8_wasTold_13, dX8_wasTold_16, dX8_wasTold_17, dX8_wasTold_20, dX8_wasTold_21, dX8_wasTold_24, dX8_wasTold_26, dX8_wasTold_27, dX8_wasTold_28, dX8_wasTold_30, dX8_wasTold_31, dX8_wasTold_32, dX8_wasTold_33, dX8_wasTold_36, dX8_wasTold_37, dX8_wasTold_40, dX8_wasTold_41, dX8_wasTold_42, dX8_wasTold_45, dX8_wasTold_48, dX8_wasTold_49, uX8_f59, uX8_f62, zi_b24, zi_i0, zi_i1, (zmo M), zM_len, ne_eq, ztu_ne, ztu_s, zfc_e, Nat.reduceMul, zM_21, (zml_21 M), (zmu_21 M), zM_22, (zml_22 M), (zmu_22 M)]
  exact loop (S 16 a 0) 0 (by omega)
theorem zR_39 (R : zR S T) {a : Nat} (ha : a < S 12 0 0) (v : Nat) : zR (zup S 39 a 0 v) (ztu T 20 (upd (T.1 20) a (nI v))) := by
  refine zR_one R [39] 20 _ (fun f hf => zup_o S (fun y => hf (by rw [y]; exact List.mem_singleton.mpr rfl))) (by decide) (by decide) (by decide) ?_
  show ∀ b, b < 6 → upd (T.1 20) a (nI v) b = nI (if b < zup S 39 a 0 v 12 0 0 then zup S 39 a 0 v 39 b 0 else 0)
  intro b hb
  rw [zup_o S (show (12 : Nat) ≠ 39 by omega)]
  by_cases z : b = a
  · subst z; rw [zupd_s, zup_s, if_pos ha]
  · rw [zupd_n _ _ z, zup_n S (fun y => z y.2.1)]; exact zr_20 R b hb
theorem zV_poll (V : zinv S) {a : Nat} (ha : a < S 12 0 0) : zinv (zpoll S a) := by
  have h39 := (zv_11 V a ha).1
  have V1 := zV_pl V (s := S 39 a 0) ha (S 11 0 0 - S 39 a 0) (by omega)
  have b11 := V.1 11 0 0
  have u11 : zpl S a (S 39 a 0) (S 11 0 0 - S 39 a 0) 11 = S 11 := zpl_o _ _ _ _ (by omega) (by omega)
  unfold zpoll
  generalize zpl S a (S 39 a 0) (S 11 0 0 - S 39 a 0) = S1 at *
  refine ⟨zH_zup V1.1 (by omega), zv_go V1.2 [39] [11] (fun f hf => zup_o S1 (fun y => hf (by rw [y]; exact List.mem_singleton.mpr rfl))) (by decide) ?_⟩
  intro k hk
  simp only [List.mem_cons, List.not_mem_nil, or_false] at hk
  subst hk
  show ∀ b, b < zup S1 39 a 0 (S 11 0 0) 12 0 0 → zup S1 39 a 0 (S 11 0 0) 39 b 0 ≤ zup S1 39 a 0 (S 11 0 0) 11 0 0 ∧ zup S1 39 a 0 (S 11 0 0) 16 b 0 ≤ 24 ∧ ∀ j, j < zup S1 39 a 0 (S 11 0 0) 16 b 0 → zup S1 39 a 0 (S 11 0 0) 21 b j < zup S1 39 a 0 (S 11 0 0) 10 0 0
  rw [zup_o S1 (show (12 : Nat) ≠ 39 by omega), zup_o S1 (show (16 : Nat) ≠ 39 by omega), zup_o S1 (show (11 : Nat) ≠ 39 by omega), zup_o S1 (show (21 : Nat) ≠ 39 by omega), zup_o S1 (show (10 : Nat) ≠ 39 by omega)]
  intro b hb
  obtain ⟨p1, p2, p3⟩ := zv_11 V1 b hb
  refine ⟨?_, p2, p3⟩
  unfold zup
  split
  · rw [u11]; exact Nat.le_refl _
  · exact p1
set_option maxRecDepth 8192 in
theorem n_poll (F : za_F G) (M : zMo A B) (R : zR S T) (V : zinv S) (hn : S 11 0 0 ≤ 800) (x : Int32) (K : za_O → za_H → Prop)
    (q : ∀ T', zR (sp_poll S x).2.2 T' → T'.1 49 0 = nI (sp_poll S x).1 → K (.inl (some (.int (sp_poll S x).2.1))) (zmk A B Sx T' r0)) : za_P G mX8_poll [.ref (A.1 (30, 0, 0)), .int x] (zmk A B Sx T r0) 0 0 K := by
  obtain ⟨g1, g2, g3, g4, g5⟩ := zv_2 V
  have h18 := zr_18 R
  unfold sp_poll at q
  refine za_m (y := yX8_poll) (cc := cX8_poll) (nL := 3) (ret := (some .int)) (hh := []) (fr := 1) (lk := lkX8) (hx := []) (ini := false) (cuts := fun p => p == 20 || p == 42) F okX8 trivial (by decide +kernel) (by decide +kernel) (Nat.le_of_ble_eq_true rfl) (by simp [Value.category]) (fun w hw => ?_)
  have bad : ∀  k, k < 100 → k ≠ 0 → (∀ T', zR S T' → T'.1 49 0 = nI k → K (.inl (some (.int (nI 0)))) (zmk A B Sx T' r0)) → w 20 [some (.ref (A.1 (30, 0, 0))), some (.int x), none] [.int (nI k), .ref (A.1 (30, 0, 0))] (zmk A B Sx T r0) 0 0 := by
    intro  k hk h0 q
    have fk := zR_f R (nI k)
    refine hw 60 _ _ _ _ _ _ ?_
    simp only [za_lv_0, za_lv_s, za_isI_i, za_rf_r, za_rf_n, za_rf_v, za_ck_r, za_isC_eq, zs_f, zs_d, zs_iconst, zs_bipush, zs_sipush, zs_lconst, zs_null, zs_iload_n, zs_iload, zs_aload_n, zs_aload, za_iv_i, zs_iinc, zs_istore_n, zs_istore, zs_astore_n, zs_astore, zs_iadd, zs_isub, zs_imul, zs_iand, zs_ior, zs_ixor, zs_ishl, zs_ishr, zs_idiv, zs_i2l, zs_lcmp, zs_dup, zs_dup_x1, zs_dup2, zs_pop, zs_goto, zs_icmp, zs_ifc, zs_nonnull, zs_acmp_eq, zs_acmp_ne, za_sw_s, zs_switch, za_iaload_s, zs_iaload, za_baload_s, zs_baload, za_laload_s, zs_laload, za_aaload_s, zs_aaload, za_iastore_s, zs_iastore, za_bastore_s, zs_bastore, za_lastore_s, zs_lastore, za_aasN_s, zs_aastoreN, za_aas_s, zs_aastore, za_alg_s, za_alg_n, zs_alen, za_gf_s, za_vl_0, za_vl_s, zs_getfield, za_pf_s, zs_putfield, za_nw_s, za_nw_t, za_tx_1, za_tx_2, zs_th, zs_new, zs_newarray, za_cx_s, zs_checkcast, za_vB_s, za_vA_s, za_sX_s, za_sN_s, za_sA_5, za_sA_6, za_sA_1, za_sA_3, za_oB_s, za_iA_2, za_iA_4, zs_invokevirtual, zs_invokestatic, zs_invokespecial, zs_ireturn, zs_return, zs_areturn, zs_areturnA, za_ex0, za_go_eq, za_fit_i, za_fit_b, za_fit_b0, za_fit_b1, za_fit_r, za_fit_n, za_fit_a, za_up_s, za_upup, za_fn_0, za_fn_1, za_fn_2, za_fn_3, za_cd_eq, za_cd_ne, za_cd_lt, za_cd_ge, za_cd_gt, za_cd_le, za_cat_i, za_cat_r, za_cat_n, zb_n0, zb_n1, zb_narrow, zn_narrow, Option.toList_some, Option.toList_none, List.set_cons_zero, List.set_cons_succ, List.length_cons, List.length_nil, List.take_succ_cons, List.take_zero, List.drop_succ_cons, List.drop_zero, List.reverse_cons, List.reverse_nil, List.nil_append, List.cons_append, List.map_cons, List.map_nil, List.replicate_succ, List.replicate_zero, true_and, and_true, true_or, or_true, false_or, or_false, eq_self, not_true_eq_false, not_false_eq_true, false_implies, true_implies, implies_true, and_self, Nat.zero_add, Nat.add_zero, Nat.le_refl, Nat.zero_le, Nat.reduceEqDiff, if_true, if_false, za_t.eq_1, za_t0.eq_1, Int.cast_ofNat_Int, Int.reduceAdd, Int.reduceToNat, Int.reduceLE, Int.reduceNeg, Nat.reduceAdd, Nat.reduceSub, Nat.reduceBEq, Nat.reduceLT, Nat.reduceLeDiff, ↓reduceIte, Bool.false_eq_true, Bool.or_false, Bool.or_true, Bool.false_or, Bool.true_or, decide_true, decide_false, ge_iff_le, gt_iff_lt, dX8_poll_0, dX8_poll_1, dX8_poll_2, dX8_poll_3, dX8_poll_4, dX8_poll_7, dX8_poll_8, dX8_poll_9, dX8_poll_12, dX8_poll_15, dX8_poll_16, dX8_poll_19, dX8_poll_20, dX8_poll_23, dX8_poll_26, dX8_poll_27, dX8_poll_28, dX8_poll_29, dX8_poll_32, dX8_poll_33, dX8_poll_34, dX8_poll_35, dX8_poll_36, dX8_poll_39, dX8_poll_40, dX8_poll_41, dX8_poll_42, dX8_poll_43, dX8_poll_44, dX8_poll_47, dX8_poll_50, dX8_poll_51, dX8_poll_54, dX8_poll_55, dX8_poll_58, dX8_poll_59, dX8_poll_60, dX8_poll_61, dX8_poll_62, dX8_poll_65, dX8_poll_66, dX8_poll_67, dX8_poll_70, dX8_poll_71, dX8_poll_72, dX8_poll_73, dX8_poll_76, dX8_poll_77, dX8_poll_78, dX8_poll_81, dX8_poll_84, dX8_poll_85, dX8_poll_88, dX8_poll_90, dX8_poll_91, dX8_poll_92, dX8_poll_93, dX8_poll_96, dX8_poll_97, dX8_poll_98, dX8_poll_99, dX8_poll_100, dX8_poll_103, dX8_poll_104, dX8_poll_105, dX8_poll_106, dX8_poll_107, dX8_poll_110, dX8_poll_111, dX8_poll_112, dX8_poll_113, dX8_poll_114, dX8_poll_115, dX8_poll_116, dX8_poll_119, dX8_poll_122, dX8_poll_123, dX8_poll_126, dX8_poll_127, dX8_poll_128, dX8_poll_131, dX8_poll_132, dX8_poll_133, dX8_poll_136, dX8_poll_137, dX8_poll_138, uX8_f23, uX8_f50, uX8_f53, uX8_f56, uX8_f59, uX8_f62, uX8_m142, uX8_m152, uX8_f163, uX8_f187, uX8_m190, zi_b24, zi_i0, zi_i1, (zmo M), zM_len, ne_eq, ztu_ne, ztu_s, zfc_e, Nat.reduceMul, zM_7, (zml_7 M), (zmu_7 M), zM_16, (zmt_16 M), zM_17, (zml_17 M), (zmu_17 M), zM_18, (zmt_18 M), zM_19, (zml_19 M), (zmu_19 M), zM_20, (zml_20 M), (zmu_20 M), zM_21, (zml_21 M), (zmu_21 M), zM_22, (zml_22 M), (zmu_22 M)]
    refine za_call (mc' := 0) (ms' := 0) (by omega) (by omega) (m_isFine F M _ _ (fun y => absurd y (by rw [zn_eq (by omega) (by omega)]; exact h0)) (fun y => ?_))
    simp only [za_lv_0, za_lv_s, za_isI_i, za_rf_r, za_rf_n, za_rf_v, za_ck_r, za_isC_eq, zs_f, zs_d, zs_iconst, zs_bipush, zs_sipush, zs_lconst, zs_null, zs_iload_n, zs_iload, zs_aload_n, zs_aload, za_iv_i, zs_iinc, zs_istore_n, zs_istore, zs_astore_n, zs_astore, zs_iadd, zs_isub, zs_imul, zs_iand, zs_ior, zs_ixor, zs_ishl, zs_ishr, zs_idiv, zs_i2l, zs_lcmp, zs_dup, zs_dup_x1, zs_dup2, zs_pop, zs_goto, zs_icmp, zs_ifc, zs_nonnull, zs_acmp_eq, zs_acmp_ne, za_sw_s, zs_switch, za_iaload_s, zs_iaload, za_baload_s, zs_baload, za_laload_s, zs_laload, za_aaload_s, zs_aaload, za_iastore_s, zs_iastore, za_bastore_s, zs_bastore, za_lastore_s, zs_lastore, za_aasN_s, zs_aastoreN, za_aas_s, zs_aastore, za_alg_s, za_alg_n, zs_alen, za_gf_s, za_vl_0, za_vl_s, zs_getfield, za_pf_s, zs_putfield, za_nw_s, za_nw_t, za_tx_1, za_tx_2, zs_th, zs_new, zs_newarray, za_cx_s, zs_checkcast, za_vB_s, za_vA_s, za_sX_s, za_sN_s, za_sA_5, za_sA_6, za_sA_1, za_sA_3, za_oB_s, za_iA_2, za_iA_4, zs_invokevirtual, zs_invokestatic, zs_invokespecial, zs_ireturn, zs_return, zs_areturn, zs_areturnA, za_ex0, za_go_eq, za_fit_i, za_fit_b, za_fit_b0, za_fit_b1, za_fit_r, za_fit_n, za_fit_a, za_up_s, za_upup, za_fn_0, za_fn_1, za_fn_2, za_fn_3, za_cd_eq, za_cd_ne, za_cd_lt, za_cd_ge, za_cd_gt, za_cd_le, za_cat_i, za_cat_r, za_cat_n, zb_n0, zb_n1, zb_narrow, zn_narrow, Option.toList_some, Option.toList_none, List.set_cons_zero, List.set_cons_succ, List.length_cons, List.length_nil, List.take_succ_cons, List.take_zero, List.drop_succ_cons, List.drop_zero, List.reverse_cons, List.reverse_nil, List.nil_append, List.cons_append, List.map_cons, List.map_nil, List.replicate_succ, List.replicate_zero, true_and, and_true, true_or, or_true, false_or, or_false, eq_self, not_true_eq_false, not_false_eq_true, false_implies, true_implies, implies_true, and_self, Nat.zero_add, Nat.add_zero, Nat.le_refl, Nat.zero_le, Nat.reduceEqDiff, if_true, if_false, za_t.eq_1, za_t0.eq_1, Int.cast_ofNat_Int, Int.reduceAdd, Int.reduceToNat, Int.reduceLE, Int.reduceNeg, Nat.reduceAdd, Nat.reduceSub, Nat.reduceBEq, Nat.reduceLT, Nat.reduceLeDiff, ↓reduceIte, Bool.false_eq_true, Bool.or_false, Bool.or_true, Bool.false_or, Bool.true_or, decide_true, decide_false, ge_iff_le, gt_iff_lt, dX8_poll_0, dX8_poll_1, dX8_poll_2, dX8_poll_3, dX8_poll_4, dX8_poll_7, dX8_poll_8, dX8_poll_9, dX8_poll_12, dX8_poll_15, dX8_poll_16, dX8_poll_19, dX8_poll_20, dX8_poll_23, dX8_poll_26, dX8_poll_27, dX8_poll_28, dX8_poll_29, dX8_poll_32, dX8_poll_33, dX8_poll_34, dX8_poll_35, dX8_poll_36, dX8_poll_39, dX8_poll_40, dX8_poll_41, dX8_poll_42, dX8_poll_43, dX8_poll_44, dX8_poll_47, dX8_poll_50, dX8_poll_51, dX8_poll_54, dX8_poll_55, dX8_poll_58, dX8_poll_59, dX8_poll_60, dX8_poll_61, dX8_poll_62, dX8_poll_65, dX8_poll_66, dX8_poll_67, dX8_poll_70, dX8_poll_71, dX8_poll_72, dX8_poll_73, dX8_poll_76, dX8_poll_77, dX8_poll_78, dX8_poll_81, dX8_poll_84, dX8_poll_85, dX8_poll_88, dX8_poll_90, dX8_poll_91, dX8_poll_92, dX8_poll_93, dX8_poll_96, dX8_poll_97, dX8_poll_98, dX8_poll_99, dX8_poll_100, dX8_poll_103, dX8_poll_104, dX8_poll_105, dX8_poll_106, dX8_poll_107, dX8_poll_110, dX8_poll_111, dX8_poll_112, dX8_poll_113, dX8_poll_114, dX8_poll_115, dX8_poll_116, dX8_poll_119, dX8_poll_122, dX8_poll_123, dX8_poll_126, dX8_poll_127, dX8_poll_128, dX8_poll_131, dX8_poll_132, dX8_poll_133, dX8_poll_136, dX8_poll_137, dX8_poll_138, uX8_f23, uX8_f50, uX8_f53, uX8_f56, uX8_f59, uX8_f62, uX8_m142, uX8_m152, uX8_f163, uX8_f187, uX8_m190, zi_b24, zi_i0, zi_i1, (zmo M), zM_len, ne_eq, ztu_ne, ztu_s, zfc_e, Nat.reduceMul, zM_7, (zml_7 M), (zmu_7 M), zM_16, (zmt_16 M), zM_17, (zml_17 M), (zmu_17 M), zM_18, (zmt_18 M), zM_19, (zml_19 M), (zmu_19 M), zM_20, (zml_20 M), (zmu_20 M), zM_21, (zml_21 M), (zmu_21 M), zM_22, (zml_22 M), (zmu_22 M)]
    exact q _ fk.1 fk.2
  refine hw 60 _ _ _ _ _ _ ?_
  simp only [za_lv_0, za_lv_s, za_isI_i, za_rf_r, za_rf_n, za_rf_v, za_ck_r, za_isC_eq, zs_f, zs_d, zs_iconst, zs_bipush, zs_sipush, zs_lconst, zs_null, zs_iload_n, zs_iload, zs_aload_n, zs_aload, za_iv_i, zs_iinc, zs_istore_n, zs_istore, zs_astore_n, zs_astore, zs_iadd, zs_isub, zs_imul, zs_iand, zs_ior, zs_ixor, zs_ishl, zs_ishr, zs_idiv, zs_i2l, zs_lcmp, zs_dup, zs_dup_x1, zs_dup2, zs_pop, zs_goto, zs_icmp, zs_ifc, zs_nonnull, zs_acmp_eq, zs_acmp_ne, za_sw_s, zs_switch, za_iaload_s, zs_iaload, za_baload_s, zs_baload, za_laload_s, zs_laload, za_aaload_s, zs_aaload, za_iastore_s, zs_iastore, za_bastore_s, zs_bastore, za_lastore_s, zs_lastore, za_aasN_s, zs_aastoreN, za_aas_s, zs_aastore, za_alg_s, za_alg_n, zs_alen, za_gf_s, za_vl_0, za_vl_s, zs_getfield, za_pf_s, zs_putfield, za_nw_s, za_nw_t, za_tx_1, za_tx_2, zs_th, zs_new, zs_newarray, za_cx_s, zs_checkcast, za_vB_s, za_vA_s, za_sX_s, za_sN_s, za_sA_5, za_sA_6, za_sA_1, za_sA_3, za_oB_s, za_iA_2, za_iA_4, zs_invokevirtual, zs_invokestatic, zs_invokespecial, zs_ireturn, zs_return, zs_areturn, zs_areturnA, za_ex0, za_go_eq, za_fit_i, za_fit_b, za_fit_b0, za_fit_b1, za_fit_r, za_fit_n, za_fit_a, za_up_s, za_upup, za_fn_0, za_fn_1, za_fn_2, za_fn_3, za_cd_eq, za_cd_ne, za_cd_lt, za_cd_ge, za_cd_gt, za_cd_le, za_cat_i, za_cat_r, za_cat_n, zb_n0, zb_n1, zb_narrow, zn_narrow, Option.toList_some, Option.toList_none, List.set_cons_zero, List.set_cons_succ, List.length_cons, List.length_nil, List.take_succ_cons, List.take_zero, List.drop_succ_cons, List.drop_zero, List.reverse_cons, List.reverse_nil, List.nil_append, List.cons_append, List.map_cons, List.map_nil, List.replicate_succ, List.replicate_zero, true_and, and_true, true_or, or_true, false_or, or_false, eq_self, not_true_eq_false, not_false_eq_true, false_implies, true_implies, implies_true, and_self, Nat.zero_add, Nat.add_zero, Nat.le_refl, Nat.zero_le, Nat.reduceEqDiff, if_true, if_false, za_t.eq_1, za_t0.eq_1, Int.cast_ofNat_Int, Int.reduceAdd, Int.reduceToNat, Int.reduceLE, Int.reduceNeg, Nat.reduceAdd, Nat.reduceSub, Nat.reduceBEq, Nat.reduceLT, Nat.reduceLeDiff, ↓reduceIte, Bool.false_eq_true, Bool.or_false, Bool.or_true, Bool.false_or, Bool.true_or, decide_true, decide_false, ge_iff_le, gt_iff_lt, dX8_poll_0, dX8_poll_1, dX8_poll_2, dX8_poll_3, dX8_poll_4, dX8_poll_7, dX8_poll_8, dX8_poll_9, dX8_poll_12, dX8_poll_15, dX8_poll_16, dX8_poll_19, dX8_poll_20, dX8_poll_23, dX8_poll_26, dX8_poll_27, dX8_poll_28, dX8_poll_29, dX8_poll_32, dX8_poll_33, dX8_poll_34, dX8_poll_35, dX8_poll_36, dX8_poll_39, dX8_poll_40, dX8_poll_41, dX8_poll_42, dX8_poll_43, dX8_poll_44, dX8_poll_47, dX8_poll_50, dX8_poll_51, dX8_poll_54, dX8_poll_55, dX8_poll_58, dX8_poll_59, dX8_poll_60, dX8_poll_61, dX8_poll_62, dX8_poll_65, dX8_poll_66, dX8_poll_67, dX8_poll_70, dX8_poll_71, dX8_poll_72, dX8_poll_73, dX8_poll_76, dX8_poll_77, dX8_poll_78, dX8_poll_81, dX8_poll_84, dX8_poll_85, dX8_poll_88, dX8_poll_90, dX8_poll_91, dX8_poll_92, dX8_poll_93, dX8_poll_96, dX8_poll_97, dX8_poll_98, dX8_poll_99, dX8_poll_100, dX8_poll_103, dX8_poll_104, dX8_poll_105, dX8_poll_106, dX8_poll_107, dX8_poll_110, dX8_poll_111, dX8_poll_112, dX8_poll_113, dX8_poll_114, dX8_poll_115, dX8_poll_116, dX8_poll_119, dX8_poll_122, dX8_poll_123, dX8_poll_126, dX8_poll_127, dX8_poll_128, dX8_poll_131, dX8_poll_132, dX8_poll_133, dX8_poll_136, dX8_poll_137, dX8_poll_138, uX8_f23, uX8_f50, uX8_f53, uX8_f56, uX8_f59, uX8_f62, uX8_m142, uX8_m152, uX8_f163, uX8_f187, uX8_m190, zi_b24, zi_i0, zi_i1, (zmo M), zM_len, ne_eq, ztu_ne, ztu_s, zfc_e, Nat.reduceMul, zM_7, (zml_7 M), (zmu_7 M), zM_16, (zmt_16 M), zM_17, (zml_17 M), (zmu_17 M), zM_18, (zmt_18 M), zM_19, (zml_19 M), (zmu_19 M), zM_20, (zml_20 M), (zmu_20 M), zM_21, (zml_21 M), (zmu_21 M), zM_22, (zml_22 M), (zmu_22 M), h18]
  refine za_call (mc' := 0) (ms' := 0) (by omega) (by omega) (m_in F _ _ _ _ _ ?_)
  rw [zq_m1 (by omega), show (nI 0).toInt = 0 from rfl]
  simp only [za_lv_0, za_lv_s, za_isI_i, za_rf_r, za_rf_n, za_rf_v, za_ck_r, za_isC_eq, zs_f, zs_d, zs_iconst, zs_bipush, zs_sipush, zs_lconst, zs_null, zs_iload_n, zs_iload, zs_aload_n, zs_aload, za_iv_i, zs_iinc, zs_istore_n, zs_istore, zs_astore_n, zs_astore, zs_iadd, zs_isub, zs_imul, zs_iand, zs_ior, zs_ixor, zs_ishl, zs_ishr, zs_idiv, zs_i2l, zs_lcmp, zs_dup, zs_dup_x1, zs_dup2, zs_pop, zs_goto, zs_icmp, zs_ifc, zs_nonnull, zs_acmp_eq, zs_acmp_ne, za_sw_s, zs_switch, za_iaload_s, zs_iaload, za_baload_s, zs_baload, za_laload_s, zs_laload, za_aaload_s, zs_aaload, za_iastore_s, zs_iastore, za_bastore_s, zs_bastore, za_lastore_s, zs_lastore, za_aasN_s, zs_aastoreN, za_aas_s, zs_aastore, za_alg_s, za_alg_n, zs_alen, za_gf_s, za_vl_0, za_vl_s, zs_getfield, za_pf_s, zs_putfield, za_nw_s, za_nw_t, za_tx_1, za_tx_2, zs_th, zs_new, zs_newarray, za_cx_s, zs_checkcast, za_vB_s, za_vA_s, za_sX_s, za_sN_s, za_sA_5, za_sA_6, za_sA_1, za_sA_3, za_oB_s, za_iA_2, za_iA_4, zs_invokevirtual, zs_invokestatic, zs_invokespecial, zs_ireturn, zs_return, zs_areturn, zs_areturnA, za_ex0, za_go_eq, za_fit_i, za_fit_b, za_fit_b0, za_fit_b1, za_fit_r, za_fit_n, za_fit_a, za_up_s, za_upup, za_fn_0, za_fn_1, za_fn_2, za_fn_3, za_cd_eq, za_cd_ne, za_cd_lt, za_cd_ge, za_cd_gt, za_cd_le, za_cat_i, za_cat_r, za_cat_n, zb_n0, zb_n1, zb_narrow, zn_narrow, Option.toList_some, Option.toList_none, List.set_cons_zero, List.set_cons_succ, List.length_cons, List.length_nil, List.take_succ_cons, List.take_zero, List.drop_succ_cons, List.drop_zero, List.reverse_cons, List.reverse_nil, List.nil_append, List.cons_append, List.map_cons, List.map_nil, List.replicate_succ, List.replicate_zero, true_and, and_true, true_or, or_true, false_or, or_false, eq_self, not_true_eq_false, not_false_eq_true, false_implies, true_implies, implies_true, and_self, Nat.zero_add, Nat.add_zero, Nat.le_refl, Nat.zero_le, Nat.reduceEqDiff, if_true, if_false, za_t.eq_1, za_t0.eq_1, Int.cast_ofNat_Int, Int.reduceAdd, Int.reduceToNat, Int.reduceLE, Int.reduceNeg, Nat.reduceAdd, Nat.reduceSub, Nat.reduceBEq, Nat.reduceLT, Nat.reduceLeDiff, ↓reduceIte, Bool.false_eq_true, Bool.or_false, Bool.or_true, Bool.false_or, Bool.true_or, decide_true, decide_false, ge_iff_le, gt_iff_lt, dX8_poll_0, dX8_poll_1, dX8_poll_2, dX8_poll_3, dX8_poll_4, dX8_poll_7, dX8_poll_8, dX8_poll_9, dX8_poll_12, dX8_poll_15, dX8_poll_16, dX8_poll_19, dX8_poll_20, dX8_poll_23, dX8_poll_26, dX8_poll_27, dX8_poll_28, dX8_poll_29, dX8_poll_32, dX8_poll_33, dX8_poll_34, dX8_poll_35, dX8_poll_36, dX8_poll_39, dX8_poll_40, dX8_poll_41, dX8_poll_42, dX8_poll_43, dX8_poll_44, dX8_poll_47, dX8_poll_50, dX8_poll_51, dX8_poll_54, dX8_poll_55, dX8_poll_58, dX8_poll_59, dX8_poll_60, dX8_poll_61, dX8_poll_62, dX8_poll_65, dX8_poll_66, dX8_poll_67, dX8_poll_70, dX8_poll_71, dX8_poll_72, dX8_poll_73, dX8_poll_76, dX8_poll_77, dX8_poll_78, dX8_poll_81, dX8_poll_84, dX8_poll_85, dX8_poll_88, dX8_poll_90, dX8_poll_91, dX8_poll_92, dX8_poll_93, dX8_poll_96, dX8_poll_97, dX8_poll_98, dX8_poll_99, dX8_poll_100, dX8_poll_103, dX8_poll_104, dX8_poll_105, dX8_poll_106, dX8_poll_107, dX8_poll_110, dX8_poll_111, dX8_poll_112, dX8_poll_113, dX8_poll_114, dX8_poll_115, dX8_poll_116, dX8_poll_119, dX8_poll_122, dX8_poll_123, dX8_poll_126, dX8_poll_127, dX8_poll_128, dX8_poll_131, dX8_poll_132, dX8_poll_133, dX8_poll_136, dX8_poll_137, dX8_poll_138, uX8_f23, uX8_f50, uX8_f53, uX8_f56, uX8_f59, uX8_f62, uX8_m142, uX8_m152, uX8_f163, uX8_f187, uX8_m190, zi_b24, zi_i0, zi_i1, (zmo M), zM_len, ne_eq, ztu_ne, ztu_s, zfc_e, Nat.reduceMul, zM_7, (zml_7 M), (zmu_7 M), zM_16, (zmt_16 M), zM_17, (zml_17 M), (zmu_17 M), zM_18, (zmt_18 M), zM_19, (zml_19 M), (zmu_19 M), zM_20, (zml_20 M), (zmu_20 M), zM_21, (zml_21 M), (zmu_21 M), zM_22, (zml_22 M), (zmu_22 M), zb_eq0]
  refine ⟨fun h => ?_, fun h => ?_⟩
  · have h := of_decide_eq_false h
    rw [if_pos (fun y => h ⟨y.1, by omega⟩)] at q
    exact bad 1 (by omega) (by omega) q
  · have h := of_decide_eq_true ((Bool.not_eq_false _).mp h)
    rw [if_neg (fun y => y ⟨h.1, by omega⟩)] at q
    obtain ⟨a, s1, rfl, s3⟩ := zx_n (x := x) (by omega)
    rw [s3, Int.toNat_natCast] at q
    have ha : a < S 12 0 0 := by omega
    have h39 := (zv_11 V a ha).1
    have VP := zV_poll V ha
    have v1 : vp_in (nI a) 6 := zn_in (by omega) (by omega)
    have c1 : (nI a).toNatClampNeg = a := zq_c (by omega)
    have f0 := zR_f R (nI 0)
    unfold zpoll at q
    generalize hs : S 39 a 0 = s at *
    have loop : ∀ n j T', s + j + n = S 11 0 0 → zR (zpl S a s j) T' → T'.1 49 0 = nI 0 → w 42 [some (.ref (A.1 (30, 0, 0))), some (.int (nI a)), some (.int (nI (s + j)))] [] (zmk A B Sx T' r0) 0 0 := by
      intro n
      induction n with
      | zero =>
        intro j T' hj R' h49
        have hj' : j = S 11 0 0 - s := by omega
        have h16 := zr_16 R'
        have u11 : zpl S a s j 11 = S 11 := zpl_o S a s j (by omega) (by omega)
        have u12 : zpl S a s j 12 = S 12 := zpl_o S a s j (by omega) (by omega)
        rw [u11] at h16
        have h21 := zr_21 R' a (by omega)
        rw [u12, if_pos ha] at h21
        rw [← hj'] at q
        refine hw 60 _ _ _ _ _ _ ?_
        simp only [za_lv_0, za_lv_s, za_isI_i, za_rf_r, za_rf_n, za_rf_v, za_ck_r, za_isC_eq, zs_f, zs_d, zs_iconst, zs_bipush, zs_sipush, zs_lconst, zs_null, zs_iload_n, zs_iload, zs_aload_n, zs_aload, za_iv_i, zs_iinc, zs_istore_n, zs_istore, zs_astore_n, zs_astore, zs_iadd, zs_isub, zs_imul, zs_iand, zs_ior, zs_ixor, zs_ishl, zs_ishr, zs_idiv, zs_i2l, zs_lcmp, zs_dup, zs_dup_x1, zs_dup2, zs_pop, zs_goto, zs_icmp, zs_ifc, zs_nonnull, zs_acmp_eq, zs_acmp_ne, za_sw_s, zs_switch, za_iaload_s, zs_iaload, za_baload_s, zs_baload, za_laload_s, zs_laload, za_aaload_s, zs_aaload, za_iastore_s, zs_iastore, za_bastore_s, zs_bastore, za_lastore_s, zs_lastore, za_aasN_s, zs_aastoreN, za_aas_s, zs_aastore, za_alg_s, za_alg_n, zs_alen, za_gf_s, za_vl_0, za_vl_s, zs_getfield, za_pf_s, zs_putfield, za_nw_s, za_nw_t, za_tx_1, za_tx_2, zs_th, zs_new, zs_newarray, za_cx_s, zs_checkcast, za_vB_s, za_vA_s, za_sX_s, za_sN_s, za_sA_5, za_sA_6, za_sA_1, za_sA_3, za_oB_s, za_iA_2, za_iA_4, zs_invokevirtual, zs_invokestatic, zs_invokespecial, zs_ireturn, zs_return, zs_areturn, zs_areturnA, za_ex0, za_go_eq, za_fit_i, za_fit_b, za_fit_b0, za_fit_b1, za_fit_r, za_fit_n, za_fit_a, za_up_s, za_upup, za_fn_0, za_fn_1, za_fn_2, za_fn_3, za_cd_eq, za_cd_ne, za_cd_lt, za_cd_ge, za_cd_gt, za_cd_le, za_cat_i, za_cat_r, za_cat_n, zb_n0, zb_n1, zb_narrow, zn_narrow, Option.toList_some, Option.toList_none, List.set_cons_zero, List.set_cons_succ, List.length_cons, List.length_nil, List.take_succ_cons, List.take_zero, List.drop_succ_cons, List.drop_zero, List.reverse_cons, List.reverse_nil, List.nil_append, List.cons_append, List.map_cons, List.map_nil, List.replicate_succ, List.replicate_zero, true_and, and_true, true_or, or_true, false_or, or_false, eq_self, not_true_eq_false, not_false_eq_true, false_implies, true_implies, implies_true, and_self, Nat.zero_add, Nat.add_zero, Nat.le_refl, Nat.zero_le, Nat.reduceEqDiff, if_true, if_false, za_t.eq_1, za_t0.eq_1, Int.cast_ofNat_Int, Int.reduceAdd, Int.reduceToNat, Int.reduceLE, Int.reduceNeg, Nat.reduceAdd, Nat.reduceSub, Nat.reduceBEq, Nat.reduceLT, Nat.reduceLeDiff, ↓reduceIte, Bool.false_eq_true, Bool.or_false, Bool.or_true, Bool.false_or, Bool.true_or, decide_true, decide_false, ge_iff_le, gt_iff_lt, dX8_poll_0, dX8_poll_1, dX8_poll_2, dX8_poll_3, dX8_poll_4, dX8_poll_7, dX8_poll_8, dX8_poll_9, dX8_poll_12, dX8_poll_15, dX8_poll_16, dX8_poll_19, dX8_poll_20, dX8_poll_23, dX8_poll_26, dX8_poll_27, dX8_poll_28, dX8_poll_29, dX8_poll_32, dX8_poll_33, dX8_poll_34, dX8_poll_35, dX8_poll_36, dX8_poll_39, dX8_poll_40, dX8_poll_41, dX8_poll_42, dX8_poll_43, dX8_poll_44, dX8_poll_47, dX8_poll_50, dX8_poll_51, dX8_poll_54, dX8_poll_55, dX8_poll_58, dX8_poll_59, dX8_poll_60, dX8_poll_61, dX8_poll_62, dX8_poll_65, dX8_poll_66, dX8_poll_67, dX8_poll_70, dX8_poll_71, dX8_poll_72, dX8_poll_73, dX8_poll_76, dX8_poll_77, dX8_poll_78, dX8_poll_81, dX8_poll_84, dX8_poll_85, dX8_poll_88, dX8_poll_90, dX8_poll_91, dX8_poll_92, dX8_poll_93, dX8_poll_96, dX8_poll_97, dX8_poll_98, dX8_poll_99, dX8_poll_100, dX8_poll_103, dX8_poll_104, dX8_poll_105, dX8_poll_106, dX8_poll_107, dX8_poll_110, dX8_poll_111, dX8_poll_112, dX8_poll_113, dX8_poll_114, dX8_poll_115, dX8_poll_116, dX8_poll_119, dX8_poll_122, dX8_poll_123, dX8_poll_126, dX8_poll_127, dX8_poll_128, dX8_poll_131, dX8_poll_132, dX8_poll_133, dX8_poll_136, dX8_poll_137, dX8_poll_138, uX8_f23, uX8_f50, uX8_f53, uX8_f56, uX8_f59, uX8_f62, uX8_m142, uX8_m152, uX8_f163, uX8_f187, uX8_m190, zi_b24, zi_i0, zi_i1, (zmo M), zM_len, ne_eq, ztu_ne, ztu_s, zfc_e, Nat.reduceMul, zM_7, (zml_7 M), (zmu_7 M), zM_16, (zmt_16 M), zM_17, (zml_17 M), (zmu_17 M), zM_18, (zmt_18 M), zM_19, (zml_19 M), (zmu_19 M), zM_20, (zml_20 M), (zmu_20 M), zM_21, (zml_21 M), (zmu_21 M), zM_22, (zml_22 M), (zmu_22 M), v1, c1, h16, h21]
        refine ⟨fun _ => ?_, fun z => absurd (nI_le (by omega) (by omega)) z⟩
        exact q _ (zR_39 R' (by rw [u12]; exact ha) _) (by rw [ztu_ne _ _ (by omega)]; exact h49)
      | succ n ih =>
        intro j T' hj R' h49
        have hjl : s + j < S 11 0 0 := by omega
        have Vj := zV_pl V (s := s) ha j (by omega)
        have h16 := zr_16 R'
        have u10 : zpl S a s j 10 = S 10 := zpl_o S a s j (by omega) (by omega)
        have u11 : zpl S a s j 11 = S 11 := zpl_o S a s j (by omega) (by omega)
        have u12 : zpl S a s j 12 = S 12 := zpl_o S a s j (by omega) (by omega)
        have u20 : zpl S a s j 20 = S 20 := zpl_o S a s j (by omega) (by omega)
        have u35 : zpl S a s j 35 = S 35 := zpl_o S a s j (by omega) (by omega)
        have u38 : zpl S a s j 38 = S 38 := zpl_o S a s j (by omega) (by omega)
        rw [u11] at h16
        have h17 := zr_17 R' (s + j) (by rw [u11]; exact hjl)
        rw [u20] at h17
        have hi := zv_10 V (s + j) hjl
        have h7 := zr_7 R' (S 20 (s + j) 0) (by rw [u10]; exact hi)
        rw [u35] at h7
        have h19 := zr_19 R' a (by rw [u12]; exact ha)
        rw [u38] at h19
        have h21 := zr_21 R' a (by omega)
        rw [u12, if_pos ha] at h21
        have b35 := V.1 35 (S 20 (s + j) 0) 0
        have b38 := V.1 38 a 0
        have k16 := (zv_11 Vj a (by rw [u12]; exact ha)).2.1
        have v2 : vp_in (nI (s + j)) 800 := zn_in (by omega) (by omega)
        have c2 : (nI (s + j)).toNatClampNeg = s + j := zq_c (by omega)
        have v3 : vp_in (nI (S 20 (s + j) 0)) 24 := zn_in (by omega) (by omega)
        have c3 : (nI (S 20 (s + j) 0)).toNatClampNeg = S 20 (s + j) 0 := zq_c (by omega)
        have el : zpl S a s (j + 1) = if S 35 (S 20 (s + j) 0) 0 = S 38 a 0 ∧ (zpm S a s j).testBit (S 20 (s + j) 0) = false then ztd (zpl S a s j) a (S 20 (s + j) 0) else zpl S a s j := rfl
        have ih' := fun T' => ih (j + 1) T' (by omega)
        have hwt : zwt (zpl S a s j) a (S 20 (s + j) 0) (zpl S a s j 16 a 0) = (zpm S a s j).testBit (S 20 (s + j) 0) := by
          rw [Bool.eq_iff_iff, zwt_t, zpl_b]
        refine hw 60 _ _ _ _ _ _ ?_
        simp only [za_lv_0, za_lv_s, za_isI_i, za_rf_r, za_rf_n, za_rf_v, za_ck_r, za_isC_eq, zs_f, zs_d, zs_iconst, zs_bipush, zs_sipush, zs_lconst, zs_null, zs_iload_n, zs_iload, zs_aload_n, zs_aload, za_iv_i, zs_iinc, zs_istore_n, zs_istore, zs_astore_n, zs_astore, zs_iadd, zs_isub, zs_imul, zs_iand, zs_ior, zs_ixor, zs_ishl, zs_ishr, zs_idiv, zs_i2l, zs_lcmp, zs_dup, zs_dup_x1, zs_dup2, zs_pop, zs_goto, zs_icmp, zs_ifc, zs_nonnull, zs_acmp_eq, zs_acmp_ne, za_sw_s, zs_switch, za_iaload_s, zs_iaload, za_baload_s, zs_baload, za_laload_s, zs_laload, za_aaload_s, zs_aaload, za_iastore_s, zs_iastore, za_bastore_s, zs_bastore, za_lastore_s, zs_lastore, za_aasN_s, zs_aastoreN, za_aas_s, zs_aastore, za_alg_s, za_alg_n, zs_alen, za_gf_s, za_vl_0, za_vl_s, zs_getfield, za_pf_s, zs_putfield, za_nw_s, za_nw_t, za_tx_1, za_tx_2, zs_th, zs_new, zs_newarray, za_cx_s, zs_checkcast, za_vB_s, za_vA_s, za_sX_s, za_sN_s, za_sA_5, za_sA_6, za_sA_1, za_sA_3, za_oB_s, za_iA_2, za_iA_4, zs_invokevirtual, zs_invokestatic, zs_invokespecial, zs_ireturn, zs_return, zs_areturn, zs_areturnA, za_ex0, za_go_eq, za_fit_i, za_fit_b, za_fit_b0, za_fit_b1, za_fit_r, za_fit_n, za_fit_a, za_up_s, za_upup, za_fn_0, za_fn_1, za_fn_2, za_fn_3, za_cd_eq, za_cd_ne, za_cd_lt, za_cd_ge, za_cd_gt, za_cd_le, za_cat_i, za_cat_r, za_cat_n, zb_n0, zb_n1, zb_narrow, zn_narrow, Option.toList_some, Option.toList_none, List.set_cons_zero, List.set_cons_succ, List.length_cons, List.length_nil, List.take_succ_cons, List.take_zero, List.drop_succ_cons, List.drop_zero, List.reverse_cons, List.reverse_nil, List.nil_append, List.cons_append, List.map_cons, List.map_nil, List.replicate_succ, List.replicate_zero, true_and, and_true, true_or, or_true, false_or, or_false, eq_self, not_true_eq_false, not_false_eq_true, false_implies, true_implies, implies_true, and_self, Nat.zero_add, Nat.add_zero, Nat.le_refl, Nat.zero_le, Nat.reduceEqDiff, if_true, if_false, za_t.eq_1, za_t0.eq_1, Int.cast_ofNat_Int, Int.reduceAdd, Int.reduceToNat, Int.reduceLE, Int.reduceNeg, Nat.reduceAdd, Nat.reduceSub, Nat.reduceBEq, Nat.reduceLT, Nat.reduceLeDiff, ↓reduceIte, Bool.false_eq_true, Bool.or_false, Bool.or_true, Bool.false_or, Bool.true_or, decide_true, decide_false, ge_iff_le, gt_iff_lt, dX8_poll_0, dX8_poll_1, dX8_poll_2, dX8_poll_3, dX8_poll_4, dX8_poll_7, dX8_poll_8, dX8_poll_9, dX8_poll_12, dX8_poll_15, dX8_poll_16, dX8_poll_19, dX8_poll_20, dX8_poll_23, dX8_poll_26, dX8_poll_27, dX8_poll_28, dX8_poll_29, dX8_poll_32, dX8_poll_33, dX8_poll_34, dX8_poll_35, dX8_poll_36, dX8_poll_39, dX8_poll_40, dX8_poll_41, dX8_poll_42, dX8_poll_43, dX8_poll_44, dX8_poll_47, dX8_poll_50, dX8_poll_51, dX8_poll_54, dX8_poll_55, dX8_poll_58, dX8_poll_59, dX8_poll_60, dX8_poll_61, dX8_poll_62, dX8_poll_65, dX8_poll_66, dX8_poll_67, dX8_poll_70, dX8_poll_71, dX8_poll_72, dX8_poll_73, dX8_poll_76, dX8_poll_77, dX8_poll_78, dX8_poll_81, dX8_poll_84, dX8_poll_85, dX8_poll_88, dX8_poll_90, dX8_poll_91, dX8_poll_92, dX8_poll_93, dX8_poll_96, dX8_poll_97, dX8_poll_98, dX8_poll_99, dX8_poll_100, dX8_poll_103, dX8_poll_104, dX8_poll_105, dX8_poll_106, dX8_poll_107, dX8_poll_110, dX8_poll_111, dX8_poll_112, dX8_poll_113, dX8_poll_114, dX8_poll_115, dX8_poll_116, dX8_poll_119, dX8_poll_122, dX8_poll_123, dX8_poll_126, dX8_poll_127, dX8_poll_128, dX8_poll_131, dX8_poll_132, dX8_poll_133, dX8_poll_136, dX8_poll_137, dX8_poll_138, uX8_f23, uX8_f50, uX8_f53, uX8_f56, uX8_f59, uX8_f62, uX8_m142, uX8_m152, uX8_f163, uX8_f187, uX8_m190, zi_b24, zi_i0, zi_i1, (zmo M), zM_len, ne_eq, ztu_ne, ztu_s, zfc_e, Nat.reduceMul, zM_7, (zml_7 M), (zmu_7 M), zM_16, (zmt_16 M), zM_17, (zml_17 M), (zmu_17 M), zM_18, (zmt_18 M), zM_19, (zml_19 M), (zmu_19 M), zM_20, (zml_20 M), (zmu_20 M), zM_21, (zml_21 M), (zmu_21 M), zM_22, (zml_22 M), (zmu_22 M), v1, c1, h16, v2, c2, h17, v3, c3, h7, h19]
        simp (disch := omega) only [zn_eq]
        refine ⟨fun z => absurd z (nI_ge (by omega) (by omega)), fun _ => ⟨fun z => ?_, fun z => ?_⟩⟩
        · rw [if_neg (fun y => z y.1)] at el
          rw [el] at ih'
          simp only [za_lv_0, za_lv_s, za_isI_i, za_rf_r, za_rf_n, za_rf_v, za_ck_r, za_isC_eq, zs_f, zs_d, zs_iconst, zs_bipush, zs_sipush, zs_lconst, zs_null, zs_iload_n, zs_iload, zs_aload_n, zs_aload, za_iv_i, zs_iinc, zs_istore_n, zs_istore, zs_astore_n, zs_astore, zs_iadd, zs_isub, zs_imul, zs_iand, zs_ior, zs_ixor, zs_ishl, zs_ishr, zs_idiv, zs_i2l, zs_lcmp, zs_dup, zs_dup_x1, zs_dup2, zs_pop, zs_goto, zs_icmp, zs_ifc, zs_nonnull, zs_acmp_eq, zs_acmp_ne, za_sw_s, zs_switch, za_iaload_s, zs_iaload, za_baload_s, zs_baload, za_laload_s, zs_laload, za_aaload_s, zs_aaload, za_iastore_s, zs_iastore, za_bastore_s, zs_bastore, za_lastore_s, zs_lastore, za_aasN_s, zs_aastoreN, za_aas_s, zs_aastore, za_alg_s, za_alg_n, zs_alen, za_gf_s, za_vl_0, za_vl_s, zs_getfield, za_pf_s, zs_putfield, za_nw_s, za_nw_t, za_tx_1, za_tx_2, zs_th, zs_new, zs_newarray, za_cx_s, zs_checkcast, za_vB_s, za_vA_s, za_sX_s, za_sN_s, za_sA_5, za_sA_6, za_sA_1, za_sA_3, za_oB_s, za_iA_2, za_iA_4, zs_invokevirtual, zs_invokestatic, zs_invokespecial, zs_ireturn, zs_return, zs_areturn, zs_areturnA, za_ex0, za_go_eq, za_fit_i, za_fit_b, za_fit_b0, za_fit_b1, za_fit_r, za_fit_n, za_fit_a, za_up_s, za_upup, za_fn_0, za_fn_1, za_fn_2, za_fn_3, za_cd_eq, za_cd_ne, za_cd_lt, za_cd_ge, za_cd_gt, za_cd_le, za_cat_i, za_cat_r, za_cat_n, zb_n0, zb_n1, zb_narrow, zn_narrow, Option.toList_some, Option.toList_none, List.set_cons_zero, List.set_cons_succ, List.length_cons, List.length_nil, List.take_succ_cons, List.take_zero, List.drop_succ_cons, List.drop_zero, List.reverse_cons, List.reverse_nil, List.nil_append, List.cons_append, List.map_cons, List.map_nil, List.replicate_succ, List.replicate_zero, true_and, and_true, true_or, or_true, false_or, or_false, eq_self, not_true_eq_false, not_false_eq_true, false_implies, true_implies, implies_true, and_self, Nat.zero_add, Nat.add_zero, Nat.le_refl, Nat.zero_le, Nat.reduceEqDiff, if_true, if_false, za_t.eq_1, za_t0.eq_1, Int.cast_ofNat_Int, Int.reduceAdd, Int.reduceToNat, Int.reduceLE, Int.reduceNeg, Nat.reduceAdd, Nat.reduceSub, Nat.reduceBEq, Nat.reduceLT, Nat.reduceLeDiff, ↓reduceIte, Bool.false_eq_true, Bool.or_false, Bool.or_true, Bool.false_or, Bool.true_or, decide_true, decide_false, ge_iff_le, gt_iff_lt, dX8_poll_0, dX8_poll_1, dX8_poll_2, dX8_poll_3, dX8_poll_4, dX8_poll_7, dX8_poll_8, dX8_poll_9, dX8_poll_12, dX8_poll_15, dX8_poll_16, dX8_poll_19, dX8_poll_20, dX8_poll_23, dX8_poll_26, dX8_poll_27, dX8_poll_28, dX8_poll_29, dX8_poll_32, dX8_poll_33, dX8_poll_34, dX8_poll_35, dX8_poll_36, dX8_poll_39, dX8_poll_40, dX8_poll_41, dX8_poll_42, dX8_poll_43, dX8_poll_44, dX8_poll_47, dX8_poll_50, dX8_poll_51, dX8_poll_54, dX8_poll_55, dX8_poll_58, dX8_poll_59, dX8_poll_60, dX8_poll_61, dX8_poll_62, dX8_poll_65, dX8_poll_66, dX8_poll_67, dX8_poll_70, dX8_poll_71, dX8_poll_72, dX8_poll_73, dX8_poll_76, dX8_poll_77, dX8_poll_78, dX8_poll_81, dX8_poll_84, dX8_poll_85, dX8_poll_88, dX8_poll_90, dX8_poll_91, dX8_poll_92, dX8_poll_93, dX8_poll_96, dX8_poll_97, dX8_poll_98, dX8_poll_99, dX8_poll_100, dX8_poll_103, dX8_poll_104, dX8_poll_105, dX8_poll_106, dX8_poll_107, dX8_poll_110, dX8_poll_111, dX8_poll_112, dX8_poll_113, dX8_poll_114, dX8_poll_115, dX8_poll_116, dX8_poll_119, dX8_poll_122, dX8_poll_123, dX8_poll_126, dX8_poll_127, dX8_poll_128, dX8_poll_131, dX8_poll_132, dX8_poll_133, dX8_poll_136, dX8_poll_137, dX8_poll_138, uX8_f23, uX8_f50, uX8_f53, uX8_f56, uX8_f59, uX8_f62, uX8_m142, uX8_m152, uX8_f163, uX8_f187, uX8_m190, zi_b24, zi_i0, zi_i1, (zmo M), zM_len, ne_eq, ztu_ne, ztu_s, zfc_e, Nat.reduceMul, zM_7, (zml_7 M), (zmu_7 M), zM_16, (zmt_16 M), zM_17, (zml_17 M), (zmu_17 M), zM_18, (zmt_18 M), zM_19, (zml_19 M), (zmu_19 M), zM_20, (zml_20 M), (zmu_20 M), zM_21, (zml_21 M), (zmu_21 M), zM_22, (zml_22 M), (zmu_22 M), nI_add]
          exact ih' T' R' h49
        · refine za_call (mc' := 0) (ms' := 0) (by omega) (by omega) (n_wasTold F M R' Vj (by rw [u12]; exact ha) (by omega) _ ?_)
          rw [hwt]
          have z := Decidable.not_not.mp z
          by_cases y : (zpm S a s j).testBit (S 20 (s + j) 0) = false
          · rw [if_pos ⟨z, y⟩] at el
            have V1 := zV_pl V (s := s) ha (j + 1) (by omega)
            rw [el] at V1 ih'
            have k17 := (zv_11 V1 a (by rw [ztd_o _ _ _ (by omega) (by omega), u12]; exact ha)).2.1
            rw [show ztd (zpl S a s j) a (S 20 (s + j) 0) 16 a 0 = zpl S a s j 16 a 0 + 1 from zup_s _ _ _ _ _] at k17
            have v4 : vp_in (nI (24 * a + zpl S a s j 16 a 0)) 144 := zn_in (by omega) (by omega)
            have c4 : (nI (24 * a + zpl S a s j 16 a 0)).toNatClampNeg = 24 * a + zpl S a s j 16 a 0 := zq_c (by omega)
            have Rn := zR_td (i := S 20 (s + j) 0) R' (by rw [u12]; exact ha) (by rw [u12]; exact g2) (fun b hb => (zv_11 Vj b hb).2.1) (by omega)
            rw [y]
            simp only [za_lv_0, za_lv_s, za_isI_i, za_rf_r, za_rf_n, za_rf_v, za_ck_r, za_isC_eq, zs_f, zs_d, zs_iconst, zs_bipush, zs_sipush, zs_lconst, zs_null, zs_iload_n, zs_iload, zs_aload_n, zs_aload, za_iv_i, zs_iinc, zs_istore_n, zs_istore, zs_astore_n, zs_astore, zs_iadd, zs_isub, zs_imul, zs_iand, zs_ior, zs_ixor, zs_ishl, zs_ishr, zs_idiv, zs_i2l, zs_lcmp, zs_dup, zs_dup_x1, zs_dup2, zs_pop, zs_goto, zs_icmp, zs_ifc, zs_nonnull, zs_acmp_eq, zs_acmp_ne, za_sw_s, zs_switch, za_iaload_s, zs_iaload, za_baload_s, zs_baload, za_laload_s, zs_laload, za_aaload_s, zs_aaload, za_iastore_s, zs_iastore, za_bastore_s, zs_bastore, za_lastore_s, zs_lastore, za_aasN_s, zs_aastoreN, za_aas_s, zs_aastore, za_alg_s, za_alg_n, zs_alen, za_gf_s, za_vl_0, za_vl_s, zs_getfield, za_pf_s, zs_putfield, za_nw_s, za_nw_t, za_tx_1, za_tx_2, zs_th, zs_new, zs_newarray, za_cx_s, zs_checkcast, za_vB_s, za_vA_s, za_sX_s, za_sN_s, za_sA_5, za_sA_6, za_sA_1, za_sA_3, za_oB_s, za_iA_2, za_iA_4, zs_invokevirtual, zs_invokestatic, zs_invokespecial, zs_ireturn, zs_return, zs_areturn, zs_areturnA, za_ex0, za_go_eq, za_fit_i, za_fit_b, za_fit_b0, za_fit_b1, za_fit_r, za_fit_n, za_fit_a, za_up_s, za_upup, za_fn_0, za_fn_1, za_fn_2, za_fn_3, za_cd_eq, za_cd_ne, za_cd_lt, za_cd_ge, za_cd_gt, za_cd_le, za_cat_i, za_cat_r, za_cat_n, zb_n0, zb_n1, zb_narrow, zn_narrow, Option.toList_some, Option.toList_none, List.set_cons_zero, List.set_cons_succ, List.length_cons, List.length_nil, List.take_succ_cons, List.take_zero, List.drop_succ_cons, List.drop_zero, List.reverse_cons, List.reverse_nil, List.nil_append, List.cons_append, List.map_cons, List.map_nil, List.replicate_succ, List.replicate_zero, true_and, and_true, true_or, or_true, false_or, or_false, eq_self, not_true_eq_false, not_false_eq_true, false_implies, true_implies, implies_true, and_self, Nat.zero_add, Nat.add_zero, Nat.le_refl, Nat.zero_le, Nat.reduceEqDiff, if_true, if_false, za_t.eq_1, za_t0.eq_1, Int.cast_ofNat_Int, Int.reduceAdd, Int.reduceToNat, Int.reduceLE, Int.reduceNeg, Nat.reduceAdd, Nat.reduceSub, Nat.reduceBEq, Nat.reduceLT, Nat.reduceLeDiff, ↓reduceIte, Bool.false_eq_true, Bool.or_false, Bool.or_true, Bool.false_or, Bool.true_or, decide_true, decide_false, ge_iff_le, gt_iff_lt, dX8_poll_0, dX8_poll_1, dX8_poll_2, dX8_poll_3, dX8_poll_4, dX8_poll_7, dX8_poll_8, dX8_poll_9, dX8_poll_12, dX8_poll_15, dX8_poll_16, dX8_poll_19, dX8_poll_20, dX8_poll_23, dX8_poll_26, dX8_poll_27, dX8_poll_28, dX8_poll_29, dX8_poll_32, dX8_poll_33, dX8_poll_34, dX8_poll_35, dX8_poll_36, dX8_poll_39, dX8_poll_40, dX8_poll_41, dX8_poll_42, dX8_poll_43, dX8_poll_44, dX8_poll_47, dX8_poll_50, dX8_poll_51, dX8_poll_54, dX8_poll_55, dX8_poll_58, dX8_poll_59, dX8_poll_60, dX8_poll_61, dX8_poll_62, dX8_poll_65, dX8_poll_66, dX8_poll_67, dX8_poll_70, dX8_poll_71, dX8_poll_72, dX8_poll_73, dX8_poll_76, dX8_poll_77, dX8_poll_78, dX8_poll_81, dX8_poll_84, dX8_poll_85, dX8_poll_88, dX8_poll_90, dX8_poll_91, dX8_poll_92, dX8_poll_93, dX8_poll_96, dX8_poll_97, dX8_poll_98, dX8_poll_99, dX8_poll_100, dX8_poll_103, dX8_poll_104, dX8_poll_105, dX8_poll_106, dX8_poll_107, dX8_poll_110, dX8_poll_111, dX8_poll_112, dX8_poll_113, dX8_poll_114, dX8_poll_115, dX8_poll_116, dX8_poll_119, dX8_poll_122, dX8_poll_123, dX8_poll_126, dX8_poll_127, dX8_poll_128, dX8_poll_131, dX8_poll_132, dX8_poll_133, dX8_poll_136, dX8_poll_137, dX8_poll_138, uX8_f23, uX8_f50, uX8_f53, uX8_f56, uX8_f59, uX8_f62, uX8_m142, uX8_m152, uX8_f163, uX8_f187, uX8_m190, zi_b24, zi_i0, zi_i1, (zmo M), zM_len, ne_eq, ztu_ne, ztu_s, zfc_e, Nat.reduceMul, zM_7, (zml_7 M), (zmu_7 M), zM_16, (zmt_16 M), zM_17, (zml_17 M), (zmu_17 M), zM_18, (zmt_18 M), zM_19, (zml_19 M), (zmu_19 M), zM_20, (zml_20 M), (zmu_20 M), zM_21, (zml_21 M), (zmu_21 M), zM_22, (zml_22 M), (zmu_22 M), zb_f, v1, c1, h21, v2, c2, h17, v4, c4, pk_mul, nI_add]
            exact ih' _ Rn (by rw [ztu_ne _ _ (by omega), ztu_ne _ _ (by omega)]; exact h49)
          · rw [if_neg (fun x => y x.2)] at el
            rw [el] at ih'
            rw [(Bool.not_eq_false _).mp y]
            simp only [za_lv_0, za_lv_s, za_isI_i, za_rf_r, za_rf_n, za_rf_v, za_ck_r, za_isC_eq, zs_f, zs_d, zs_iconst, zs_bipush, zs_sipush, zs_lconst, zs_null, zs_iload_n, zs_iload, zs_aload_n, zs_aload, za_iv_i, zs_iinc, zs_istore_n, zs_istore, zs_astore_n, zs_astore, zs_iadd, zs_isub, zs_imul, zs_iand, zs_ior, zs_ixor, zs_ishl, zs_ishr, zs_idiv, zs_i2l, zs_lcmp, zs_dup, zs_dup_x1, zs_dup2, zs_pop, zs_goto, zs_icmp, zs_ifc, zs_nonnull, zs_acmp_eq, zs_acmp_ne, za_sw_s, zs_switch, za_iaload_s, zs_iaload, za_baload_s, zs_baload, za_laload_s, zs_laload, za_aaload_s, zs_aaload, za_iastore_s, zs_iastore, za_bastore_s, zs_bastore, za_lastore_s, zs_lastore, za_aasN_s, zs_aastoreN, za_aas_s, zs_aastore, za_alg_s, za_alg_n, zs_alen, za_gf_s, za_vl_0, za_vl_s, zs_getfield, za_pf_s, zs_putfield, za_nw_s, za_nw_t, za_tx_1, za_tx_2, zs_th, zs_new, zs_newarray, za_cx_s, zs_checkcast, za_vB_s, za_vA_s, za_sX_s, za_sN_s, za_sA_5, za_sA_6, za_sA_1, za_sA_3, za_oB_s, za_iA_2, za_iA_4, zs_invokevirtual, zs_invokestatic, zs_invokespecial, zs_ireturn, zs_return, zs_areturn, zs_areturnA, za_ex0, za_go_eq, za_fit_i, za_fit_b, za_fit_b0, za_fit_b1, za_fit_r, za_fit_n, za_fit_a, za_up_s, za_upup, za_fn_0, za_fn_1, za_fn_2, za_fn_3, za_cd_eq, za_cd_ne, za_cd_lt, za_cd_ge, za_cd_gt, za_cd_le, za_cat_i, za_cat_r, za_cat_n, zb_n0, zb_n1, zb_narrow, zn_narrow, Option.toList_some, Option.toList_none, List.set_cons_zero, List.set_cons_succ, List.length_cons, List.length_nil, List.take_succ_cons, List.take_zero, List.drop_succ_cons, List.drop_zero, List.reverse_cons, List.reverse_nil, List.nil_append, List.cons_append, List.map_cons, List.map_nil, List.replicate_succ, List.replicate_zero, true_and, and_true, true_or, or_true, false_or, or_false, eq_self, not_true_eq_false, not_false_eq_true, false_implies, true_implies, implies_true, and_self, Nat.zero_add, Nat.add_zero, Nat.le_refl, Nat.zero_le, Nat.reduceEqDiff, if_true, if_false, za_t.eq_1, za_t0.eq_1, Int.cast_ofNat_Int, Int.reduceAdd, Int.reduceToNat, Int.reduceLE, Int.reduceNeg, Nat.reduceAdd, Nat.reduceSub, Nat.reduceBEq, Nat.reduceLT, Nat.reduceLeDiff, ↓reduceIte, Bool.false_eq_true, Bool.or_false, Bool.or_true, Bool.false_or, Bool.true_or, decide_true, decide_false, ge_iff_le, gt_iff_lt, dX8_poll_0, dX8_poll_1, dX8_poll_2, dX8_poll_3, dX8_poll_4, dX8_poll_7, dX8_poll_8, dX8_poll_9, dX8_poll_12, dX8_poll_15, dX8_poll_16, dX8_poll_19, dX8_poll_20, dX8_poll_23, dX8_poll_26, dX8_poll_27, dX8_poll_28, dX8_poll_29, dX8_poll_32, dX8_poll_33, dX8_poll_34, dX8_poll_35, dX8_poll_36, dX8_poll_39, dX8_poll_40, dX8_poll_41, dX8_poll_42, dX8_poll_43, dX8_poll_44, dX8_poll_47, dX8_poll_50, dX8_poll_51, dX8_poll_54, dX8_poll_55, dX8_poll_58, dX8_poll_59, dX8_poll_60, dX8_poll_61, dX8_poll_62, dX8_poll_65, dX8_poll_66, dX8_poll_67, dX8_poll_70, dX8_poll_71, dX8_poll_72, dX8_poll_73, dX8_poll_76, dX8_poll_77, dX8_poll_78, dX8_poll_81, dX8_poll_84, dX8_poll_85, dX8_poll_88, dX8_poll_90, dX8_poll_91, dX8_poll_92, dX8_poll_93, dX8_poll_96, dX8_poll_97, dX8_poll_98, dX8_poll_99, dX8_poll_100, dX8_poll_103, dX8_poll_104, dX8_poll_105, dX8_poll_106, dX8_poll_107, dX8_poll_110, dX8_poll_111, dX8_poll_112, dX8_poll_113, dX8_poll_114, dX8_poll_115, dX8_poll_116, dX8_poll_119, dX8_poll_122, dX8_poll_123, dX8_poll_126, dX8_poll_127, dX8_poll_128, dX8_poll_131, dX8_poll_132, dX8_poll_133, dX8_poll_136, dX8_poll_137, dX8_poll_138, uX8_f23, uX8_f50, uX8_f53, uX8_f56, uX8_f59, uX8_f62, uX8_m142, uX8_m152, uX8_f163, uX8_f187, uX8_m190, zi_b24, zi_i0, zi_i1, (zmo M), zM_len, ne_eq, ztu_ne, ztu_s, zfc_e, Nat.reduceMul, zM_7, (zml_7 M), (zmu_7 M), zM_16, (zmt_16 M), zM_17, (zml_17 M), (zmu_17 M), zM_18, (zmt_18 M), zM_19, (zml_19 M), (zmu_19 M), zM_20, (zml_20 M), (zmu_20 M), zM_21, (zml_21 M), (zmu_21 M), zM_22, (zml_22 M), (zmu_22 M), zb_t, nI_add]
            exact ⟨fun _ => ih' T' R' h49, fun x => absurd (by decide) x⟩
    refine hw 60 _ _ _ _ _ _ ?_
    simp only [za_lv_0, za_lv_s, za_isI_i, za_rf_r, za_rf_n, za_rf_v, za_ck_r, za_isC_eq, zs_f, zs_d, zs_iconst, zs_bipush, zs_sipush, zs_lconst, zs_null, zs_iload_n, zs_iload, zs_aload_n, zs_aload, za_iv_i, zs_iinc, zs_istore_n, zs_istore, zs_astore_n, zs_astore, zs_iadd, zs_isub, zs_imul, zs_iand, zs_ior, zs_ixor, zs_ishl, zs_ishr, zs_idiv, zs_i2l, zs_lcmp, zs_dup, zs_dup_x1, zs_dup2, zs_pop, zs_goto, zs_icmp, zs_ifc, zs_nonnull, zs_acmp_eq, zs_acmp_ne, za_sw_s, zs_switch, za_iaload_s, zs_iaload, za_baload_s, zs_baload, za_laload_s, zs_laload, za_aaload_s, zs_aaload, za_iastore_s, zs_iastore, za_bastore_s, zs_bastore, za_lastore_s, zs_lastore, za_aasN_s, zs_aastoreN, za_aas_s, zs_aastore, za_alg_s, za_alg_n, zs_alen, za_gf_s, za_vl_0, za_vl_s, zs_getfield, za_pf_s, zs_putfield, za_nw_s, za_nw_t, za_tx_1, za_tx_2, zs_th, zs_new, zs_newarray, za_cx_s, zs_checkcast, za_vB_s, za_vA_s, za_sX_s, za_sN_s, za_sA_5, za_sA_6, za_sA_1, za_sA_3, za_oB_s, za_iA_2, za_iA_4, zs_invokevirtual, zs_invokestatic, zs_invokespecial, zs_ireturn, zs_return, zs_areturn, zs_areturnA, za_ex0, za_go_eq, za_fit_i, za_fit_b, za_fit_b0, za_fit_b1, za_fit_r, za_fit_n, za_fit_a, za_up_s, za_upup, za_fn_0, za_fn_1, za_fn_2, za_fn_3, za_cd_eq, za_cd_ne, za_cd_lt, za_cd_ge, za_cd_gt, za_cd_le, za_cat_i, za_cat_r, za_cat_n, zb_n0, zb_n1, zb_narrow, zn_narrow, Option.toList_some, Option.toList_none, List.set_cons_zero, List.set_cons_succ, List.length_cons, List.length_nil, List.take_succ_cons, List.take_zero, List.drop_succ_cons, List.drop_zero, List.reverse_cons, List.reverse_nil, List.nil_append, List.cons_append, List.map_cons, List.map_nil, List.replicate_succ, List.replicate_zero, true_and, and_true, true_or, or_true, false_or, or_false, eq_self, not_true_eq_false, not_false_eq_true, false_implies, true_implies, implies_true, and_self, Nat.zero_add, Nat.add_zero, Nat.le_refl, Nat.zero_le, Nat.reduceEqDiff, if_true, if_false, za_t.eq_1, za_t0.eq_1, Int.cast_ofNat_Int, Int.reduceAdd, Int.reduceToNat, Int.reduceLE, Int.reduceNeg, Nat.reduceAdd, Nat.reduceSub, Nat.reduceBEq, Nat.reduceLT, Nat.reduceLeDiff, ↓reduceIte, Bool.false_eq_true, Bool.or_false, Bool.or_true, Bool.false_or, Bool.true_or, decide_true, decide_false, ge_iff_le, gt_iff_lt, dX8_poll_0, dX8_poll_1, dX8_poll_2, dX8_poll_3, dX8_poll_4, dX8_poll_7, dX8_poll_8, dX8_poll_9, dX8_poll_12, dX8_poll_15, dX8_poll_16, dX8_poll_19, dX8_poll_20, dX8_poll_23, dX8_poll_26, dX8_poll_27, dX8_poll_28, dX8_poll_29, dX8_poll_32, dX8_poll_33, dX8_poll_34, dX8_poll_35, dX8_poll_36, dX8_poll_39, dX8_poll_40, dX8_poll_41, dX8_poll_42, dX8_poll_43, dX8_poll_44, dX8_poll_47, dX8_poll_50, dX8_poll_51, dX8_poll_54, dX8_poll_55, dX8_poll_58, dX8_poll_59, dX8_poll_60, dX8_poll_61, dX8_poll_62, dX8_poll_65, dX8_poll_66, dX8_poll_67, dX8_poll_70, dX8_poll_71, dX8_poll_72, dX8_poll_73, dX8_poll_76, dX8_poll_77, dX8_poll_78, dX8_poll_81, dX8_poll_84, dX8_poll_85, dX8_poll_88, dX8_poll_90, dX8_poll_91, dX8_poll_92, dX8_poll_93, dX8_poll_96, dX8_poll_97, dX8_poll_98, dX8_poll_99, dX8_poll_100, dX8_poll_103, dX8_poll_104, dX8_poll_105, dX8_poll_106, dX8_poll_107, dX8_poll_110, dX8_poll_111, dX8_poll_112, dX8_poll_113, dX8_poll_114, dX8_poll_115, dX8_poll_116, dX8_poll_119, dX8_poll_122, dX8_poll_123, dX8_poll_126, dX8_poll_127, dX8_poll_128, dX8_poll_131, dX8_poll_132, dX8_poll_133, dX8_poll_136, dX8_poll_137, dX8_poll_138, uX8_f23, uX8_f50, uX8_f53, uX8_f56, uX8_f59, uX8_f62, uX8_m142, uX8_m152, uX8_f163, uX8_f187, uX8_m190, zi_b24, zi_i0, zi_i1, (zmo M), zM_len, ne_eq, ztu_ne, ztu_s, zfc_e, Nat.reduceMul, zM_7, (zml_7 M), (zmu_7 M), zM_16, (zmt_16 M), zM_17, (zml_17 M), (zmu_17 M), zM_18, (zmt_18 M), zM_19, (zml_19 M), (zmu_19 M), zM_20, (zml_20 M), (zmu_20 M), zM_21, (zml_21 M), (zmu_21 M), zM_22, (zml_22 M), (zmu_22 M)]
    refine za_call (mc' := 0) (ms' := 0) (by omega) (by omega) (m_isFine F M _ _ (fun y => ?_) (fun y => absurd rfl y))
    generalize ztu T 49 (zfc (nI 0)) = T0 at *
    have h20 := zr_20 f0.1 a (by omega)
    rw [if_pos ha, hs] at h20
    simp only [za_lv_0, za_lv_s, za_isI_i, za_rf_r, za_rf_n, za_rf_v, za_ck_r, za_isC_eq, zs_f, zs_d, zs_iconst, zs_bipush, zs_sipush, zs_lconst, zs_null, zs_iload_n, zs_iload, zs_aload_n, zs_aload, za_iv_i, zs_iinc, zs_istore_n, zs_istore, zs_astore_n, zs_astore, zs_iadd, zs_isub, zs_imul, zs_iand, zs_ior, zs_ixor, zs_ishl, zs_ishr, zs_idiv, zs_i2l, zs_lcmp, zs_dup, zs_dup_x1, zs_dup2, zs_pop, zs_goto, zs_icmp, zs_ifc, zs_nonnull, zs_acmp_eq, zs_acmp_ne, za_sw_s, zs_switch, za_iaload_s, zs_iaload, za_baload_s, zs_baload, za_laload_s, zs_laload, za_aaload_s, zs_aaload, za_iastore_s, zs_iastore, za_bastore_s, zs_bastore, za_lastore_s, zs_lastore, za_aasN_s, zs_aastoreN, za_aas_s, zs_aastore, za_alg_s, za_alg_n, zs_alen, za_gf_s, za_vl_0, za_vl_s, zs_getfield, za_pf_s, zs_putfield, za_nw_s, za_nw_t, za_tx_1, za_tx_2, zs_th, zs_new, zs_newarray, za_cx_s, zs_checkcast, za_vB_s, za_vA_s, za_sX_s, za_sN_s, za_sA_5, za_sA_6, za_sA_1, za_sA_3, za_oB_s, za_iA_2, za_iA_4, zs_invokevirtual, zs_invokestatic, zs_invokespecial, zs_ireturn, zs_return, zs_areturn, zs_areturnA, za_ex0, za_go_eq, za_fit_i, za_fit_b, za_fit_b0, za_fit_b1, za_fit_r, za_fit_n, za_fit_a, za_up_s, za_upup, za_fn_0, za_fn_1, za_fn_2, za_fn_3, za_cd_eq, za_cd_ne, za_cd_lt, za_cd_ge, za_cd_gt, za_cd_le, za_cat_i, za_cat_r, za_cat_n, zb_n0, zb_n1, zb_narrow, zn_narrow, Option.toList_some, Option.toList_none, List.set_cons_zero, List.set_cons_succ, List.length_cons, List.length_nil, List.take_succ_cons, List.take_zero, List.drop_succ_cons, List.drop_zero, List.reverse_cons, List.reverse_nil, List.nil_append, List.cons_append, List.map_cons, List.map_nil, List.replicate_succ, List.replicate_zero, true_and, and_true, true_or, or_true, false_or, or_false, eq_self, not_true_eq_false, not_false_eq_true, false_implies, true_implies, implies_true, and_self, Nat.zero_add, Nat.add_zero, Nat.le_refl, Nat.zero_le, Nat.reduceEqDiff, if_true, if_false, za_t.eq_1, za_t0.eq_1, Int.cast_ofNat_Int, Int.reduceAdd, Int.reduceToNat, Int.reduceLE, Int.reduceNeg, Nat.reduceAdd, Nat.reduceSub, Nat.reduceBEq, Nat.reduceLT, Nat.reduceLeDiff, ↓reduceIte, Bool.false_eq_true, Bool.or_false, Bool.or_true, Bool.false_or, Bool.true_or, decide_true, decide_false, ge_iff_le, gt_iff_lt, dX8_poll_0, dX8_poll_1, dX8_poll_2, dX8_poll_3, dX8_poll_4, dX8_poll_7, dX8_poll_8, dX8_poll_9, dX8_poll_12, dX8_poll_15, dX8_poll_16, dX8_poll_19, dX8_poll_20, dX8_poll_23, dX8_poll_26, dX8_poll_27, dX8_poll_28, dX8_poll_29, dX8_poll_32, dX8_poll_33, dX8_poll_34, dX8_poll_35, dX8_poll_36, dX8_poll_39, dX8_poll_40, dX8_poll_41, dX8_poll_42, dX8_poll_43, dX8_poll_44, dX8_poll_47, dX8_poll_50, dX8_poll_51, dX8_poll_54, dX8_poll_55, dX8_poll_58, dX8_poll_59, dX8_poll_60, dX8_poll_61, dX8_poll_62, dX8_poll_65, dX8_poll_66, dX8_poll_67, dX8_poll_70, dX8_poll_71, dX8_poll_72, dX8_poll_73, dX8_poll_76, dX8_poll_77, dX8_poll_78, dX8_poll_81, dX8_poll_84, dX8_poll_85, dX8_poll_88, dX8_poll_90, dX8_poll_91, dX8_poll_92, dX8_poll_93, dX8_poll_96, dX8_poll_97, dX8_poll_98, dX8_poll_99, dX8_poll_100, dX8_poll_103, dX8_poll_104, dX8_poll_105, dX8_poll_106, dX8_poll_107, dX8_poll_110, dX8_poll_111, dX8_poll_112, dX8_poll_113, dX8_poll_114, dX8_poll_115, dX8_poll_116, dX8_poll_119, dX8_poll_122, dX8_poll_123, dX8_poll_126, dX8_poll_127, dX8_poll_128, dX8_poll_131, dX8_poll_132, dX8_poll_133, dX8_poll_136, dX8_poll_137, dX8_poll_138, uX8_f23, uX8_f50, uX8_f53, uX8_f56, uX8_f59, uX8_f62, uX8_m142, uX8_m152, uX8_f163, uX8_f187, uX8_m190, zi_b24, zi_i0, zi_i1, (zmo M), zM_len, ne_eq, ztu_ne, ztu_s, zfc_e, Nat.reduceMul, zM_7, (zml_7 M), (zmu_7 M), zM_16, (zmt_16 M), zM_17, (zml_17 M), (zmu_17 M), zM_18, (zmt_18 M), zM_19, (zml_19 M), (zmu_19 M), zM_20, (zml_20 M), (zmu_20 M), zM_21, (zml_21 M), (zmu_21 M), zM_22, (zml_22 M), (zmu_22 M), v1, c1, h20]
    refine ⟨fun _ => ?_, fun z => absurd (by decide) z⟩
    exact loop (S 11 0 0 - s) 0 _ (by omega) (zR_clr f0.1 ha g2) (by rw [ztu_ne _ _ (by omega)]; exact f0.2)
end ZRY
