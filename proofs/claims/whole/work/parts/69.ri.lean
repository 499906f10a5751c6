/-! THE CALLS (6): the model's changes; withdraw, cut, bot -/
/-- one row and its fields go on -/
theorem zR_one {S S' : zS} {T : zT} (R : zR S T) (FS : List Nat) (k : Nat) (g : Nat → Int32) (hS : ∀ f, f ∉ FS → S' f = S f) (hL : zaf FS [k] = [k]) (h3 : 3 ∉ FS ∧ 14 ∉ FS ∧ 18 ∉ FS ∧ 59 ∉ FS ∧ 60 ∉ FS) (hk : k ≠ 46 ∧ k ≠ 47 ∧ k ≠ 48) (q : zW S' g k) : zR S' (ztu T k g) := by
  have hT : ∀ j, j ∉ [k] → (ztu T k g).1 j = T.1 j := fun j hj => ztu_ne T g (fun y => hj (by rw [y]; exact List.mem_singleton.mpr rfl))
  refine ⟨zR_go R.1 FS [k] [k] hS hT hL (fun j hj => ?_), fun d s hd hs => ?_⟩
  · rw [List.mem_singleton] at hj
    subst hj
    rw [ztu_s]
    exact q
  · obtain ⟨a3, a14, a18, a59, a60⟩ := h3
    rw [hS 14 a14, hS 3 a3, hS 18 a18, zmr_T (ztu_ne T g hk.1.symm) (ztu_ne T g hk.2.1.symm) (ztu_ne T g hk.2.2.symm), zld_S (hS 59 a59) (hS 60 a60)]
    exact R.2 d s hd hs
theorem zb_d (p : Prop) [Decidable p] (h : p) : zb (decide p) = nI 1 := by rw [decide_eq_true h]; rfl
theorem zb_n (p : Prop) [Decidable p] (h : ¬ p) : zb (decide p) = nI 0 := by rw [decide_eq_false h]; rfl
theorem zb_c {p q : Prop} [Decidable p] [Decidable q] (h : p ↔ q) : zb (decide p) = zb (decide q) := by rw [decide_eq_decide.mpr h]
section ZRI
variable {G : za_G} {A : zA} {B : zB} {S Sx : zS} {T : zT} {r0 : za_H}
theorem zR_37 (R : zR S T) {i : Nat} (hi : i < S 10 0 0) : zR (zup S 37 i 0 1) (ztu T 10 (upd (T.1 10) i (nI 1))) := by
  refine zR_one R [37] 10 _ (fun f hf => zup_o S (fun y => hf (by rw [y]; exact List.mem_singleton.mpr rfl))) (by decide) (by decide) (by decide) ?_
  show ∀ a, a < 24 → upd (T.1 10) i (nI 1) a = zb (decide (a < zup S 37 i 0 1 10 0 0 ∧ zup S 37 i 0 1 37 a 0 ≠ 0))
  intro a ha
  rw [zup_o S (show (10 : Nat) ≠ 37 by omega)]
  by_cases z : a = i
  · subst z
    rw [zupd_s, zup_s, zb_d _ ⟨hi, by omega⟩]
  · rw [zupd_n _ _ z, zup_n S (fun y => z y.2.1)]
    exact zr_10 R a ha
theorem zR_33 (R : zR S T) (V : zinv S) {i j : Nat} (hi : i < S 10 0 0) (hj : j < S 15 i 0) : zR (zup S 33 i j 1) (ztu T 15 (upd (T.1 15) (10 * i + j) (nI 1))) := by
  refine zR_one R [33] 15 _ (fun f hf => zup_o S (fun y => hf (by rw [y]; exact List.mem_singleton.mpr rfl))) (by decide) (by decide) (by decide) ?_
  show ∀ a b, a < zup S 33 i j 1 10 0 0 → b < zup S 33 i j 1 15 a 0 → upd (T.1 15) (10 * i + j) (nI 1) (10 * a + b) = zb (decide (zup S 33 i j 1 33 a b ≠ 0))
  rw [zup_o S (show (10 : Nat) ≠ 33 by omega), zup_o S (show (15 : Nat) ≠ 33 by omega)]
  intro a b ha hb
  have h1 := zv_3 V i (by omega)
  have h2 := zv_3 V a (by omega)
  by_cases z : a = i ∧ b = j
  · obtain ⟨rfl, rfl⟩ := z
    rw [zupd_s, zup_s, zb_d _ (by omega)]
  · rw [zupd_n _ _ (by omega), zup_n S (fun y => z y.2)]
    exact zr_15 R a b ha hb
/-- a change is noted -/
theorem zR_chg (R : zR S T) {i : Nat} (g : Nat → Int32) (hg : g 0 = nI (S 11 0 0 + 1)) : zR (zchg S i) (ztu (ztu T 17 (upd (T.1 17) (S 11 0 0) (nI i))) 16 g) := by
  have hfo : ∀ f, f ∉ [20, 11] → zchg S i f = S f := fun f hf => by
    simp only [List.mem_cons, List.not_mem_nil, or_false, not_or] at hf
    exact zchg_o S i hf.1 hf.2
  have e11 := zchg_11 S i
  have e20 : zchg S i 20 (S 11 0 0) 0 = i := (zup_n _ (fun z => by omega)).trans (zup_s _ _ _ _ _)
  have e20' : ∀ j, j ≠ S 11 0 0 → zchg S i 20 j 0 = S 20 j 0 := fun j h => (zup_n _ (fun z => by omega)).trans (zup_n S (fun z => h z.2.1))
  have hT : ∀ k, k ∉ [16, 17] → (ztu (ztu T 17 (upd (T.1 17) (S 11 0 0) (nI i))) 16 g).1 k = T.1 k := fun k hk => by
    simp only [List.mem_cons, List.not_mem_nil, or_false, not_or] at hk
    rw [ztu_ne _ _ hk.1, ztu_ne _ _ hk.2]
  refine ⟨zR_go R.1 [20, 11] [16, 17] [16, 17] hfo hT (by decide) ?_, fun d s hd hs => ?_⟩
  · intro k hk
    simp only [List.mem_cons, List.not_mem_nil, or_false] at hk
    rcases hk with rfl | rfl
    · show (ztu (ztu T 17 (upd (T.1 17) (S 11 0 0) (nI i))) 16 g).1 16 0 = nI (zchg S i 11 0 0)
      rw [ztu_s, hg, e11]
    · show ∀ j, j < zchg S i 11 0 0 → (ztu (ztu T 17 (upd (T.1 17) (S 11 0 0) (nI i))) 16 g).1 17 j = nI (zchg S i 20 j 0)
      rw [ztu_ne _ _ (by omega), ztu_s, e11]
      intro j hj
      by_cases z : j = S 11 0 0
      · subst z; rw [zupd_s, e20]
      · rw [zupd_n _ _ z, e20' j z]; exact zr_17 R j (by omega)
  · rw [hfo 14 (by decide), hfo 3 (by decide), hfo 18 (by decide), zmr_T (hT 46 (by decide)) (hT 47 (by decide)) (hT 48 (by decide)), zld_S (hfo 59 (by decide)) (hfo 60 (by decide))]
    exact R.2 d s hd hs
set_option maxRecDepth 8192 in
theorem n_change (F : za_F G) (M : zMo A B) (R : zR S T) (V : zinv S) {i : Nat} (hi : i < S 10 0 0) (hn : S 11 0 0 < 800) (K : za_O → za_H → Prop) (q : ∀ T', zR (znote S i) T' → T'.1 49 = T.1 49 → K (.inl none) (zmk A B Sx T' r0)) : za_P G mX8_change [.ref (A.1 (30, 0, 0)), .int (nI i)] (zmk A B Sx T r0) 0 0 K := by
  obtain ⟨g1, g2, g3, g4, g5⟩ := zv_2 V
  have h9 := zr_9 R i (by omega)
  have h16 := zr_16 R
  have v2 : vp_in (nI i) 24 := zn_in (by omega) (by omega)
  have c2 : (nI i).toNatClampNeg = i := zq_c (by omega)
  have v3 : vp_in (nI (S 11 0 0)) 800 := zn_in (by omega) (by omega)
  have c3 : (nI (S 11 0 0)).toNatClampNeg = S 11 0 0 := zq_c (by omega)
  unfold znote at q
  refine za_m (y := yX8_change) (cc := cX8_change) (nL := 2) (ret := none) (hh := []) (fr := 0) (lk := lkX8) (hx := []) (ini := false) (cuts := fun p => false) F okX8 trivial (by decide +kernel) (by decide +kernel) (Nat.le_of_ble_eq_true rfl) (by simp [Value.category]) (fun w hw => ?_)
  refine hw 60 _ _ _ _ _ _ ?_
  simp only [za_lv_0, za_lv_s, za_isI_i, za_rf_r, za_rf_n, za_rf_v, za_ck_r, za_isC_eq, zs_f, zs_d, zs_iconst, zs_bipush, zs_sipush, zs_lconst, zs_null, zs_iload_n, zs_iload, zs_aload_n, zs_aload, za_iv_i, zs_iinc, zs_istore_n, zs_istore, zs_astore_n, zs_astore, zs_iadd, zs_isub, zs_imul, zs_iand, zs_ior, zs_ixor, zs_ishl, zs_ishr, zs_idiv, zs_i2l, zs_lcmp, zs_dup, zs_dup_x1, zs_dup2, zs_pop, zs_goto, zs_icmp, zs_ifc, zs_nonnull, zs_acmp_eq, zs_acmp_ne, za_sw_s, zs_switch, za_iaload_s, zs_iaload, za_baload_s, zs_baload, za_laload_s, zs_laload, za_aaload_s, zs_aaload, za_iastore_s, zs_iastore, za_bastore_s, zs_bastore, za_lastore_s, zs_lastore, za_aasN_s, zs_aastoreN, za_aas_s, zs_aastore, za_alg_s, za_alg_n, zs_alen, za_gf_s, za_vl_0, za_vl_s, zs_getfield, za_pf_s, zs_putfield, za_nw_s, za_nw_t, za_tx_1, za_tx_2, zs_th, zs_new, zs_newarray, za_cx_s, zs_checkcast, za_vB_s, za_vA_s, za_sX_s, za_sN_s, za_sA_5, za_sA_6, za_sA_1, za_sA_3, za_oB_s, za_iA_2, za_iA_4, zs_invokevirtual, zs_invokestatic, zs_invokespecial, zs_ireturn, zs_return, zs_areturn, zs_areturnA, za_ex0, za_go_eq, za_fit_i, za_fit_b, za_fit_b0, za_fit_b1, za_fit_r, za_fit_n, za_fit_a, za_up_s, za_upup, za_fn_0, za_fn_1, za_fn_2, za_fn_3, za_cd_eq, za_cd_ne, za_cd_lt, za_cd_ge, za_cd_gt, za_cd_le, za_cat_i, za_cat_r, za_cat_n, zb_n0, zb_n1, zb_narrow, zn_narrow, Option.toList_some, Option.toList_none, List.set_cons_zero, List.set_cons_succ, List.length_cons, List.length_nil, List.take_succ_cons, List.take_zero, List.drop_succ_cons, List.drop_zero, List.reverse_cons, List.reverse_nil, List.nil_append, List.cons_append, List.map_cons, List.map_nil, List.replicate_succ, List.replicate_zero, true_and, and_true, true_or, or_true, false_or, or_false, eq_self, not_true_eq_false, not_false_eq_true, false_implies, true_implies, implies_true, and_self, Nat.zero_add, Nat.add_zero, Nat.le_refl, Nat.zero_le, Nat.reduceEqDiff, if_true, if_false, za_t.eq_1, za_t0.eq_1, Int.cast_ofNat_Int, Int.reduceAdd, Int.reduceToNat, Int.reduceLE, Int.reduceNeg, Nat.reduceAdd, Nat.reduceSub, Nat.reduceBEq, Nat.reduceLT, Nat.reduceLeDiff, ↓reduceIte, Bool.false_eq_true, Bool.or_false, Bool.or_true, Bool.false_or, Bool.true_or, decide_true, decide_false, ge_iff_le, gt_iff_lt, dX8_change_0, dX8_change_1, dX8_change_4, dX8_change_5, dX8_change_6, dX8_change_9, dX8_change_10, dX8_change_13, dX8_change_14, dX8_change_17, dX8_change_18, dX8_change_19, dX8_change_20, dX8_change_21, dX8_change_24, dX8_change_25, dX8_change_26, dX8_change_29, uX8_f29, uX8_f50, uX8_f163, zi_i1, (zmo M), zM_len, ne_eq, ztu_ne, ztu_s, zfc_e, Nat.reduceMul, zM_9, (zml_9 M), (zmu_9 M), zM_16, (zmt_16 M), zM_17, (zml_17 M), (zmu_17 M), v2, c2, h9, h16, v3, c3, nI_add, zb_eq0]
  refine ⟨fun z => ?_, fun z => ?_⟩
  · have z := of_decide_eq_false z
    rw [if_neg (fun y => z ⟨hi, y⟩)] at q
    exact q T R rfl
  · have z := of_decide_eq_true ((Bool.not_eq_false _).mp z)
    rw [if_pos z.2] at q
    exact q _ (zR_chg R _ rfl) (by rw [ztu_ne _ _ (by omega), ztu_ne _ _ (by omega)])
def sp_withdraw (S : zS) (x : Int32) : Nat × Int32 × zS :=
  if ¬ (0 ≤ x.toInt ∧ x.toInt < S 10 0 0) then (1, nI 0, S) else if S 37 x.toInt.toNat 0 ≠ 0 then (2, nI 0, S) else (0, nI 0, znote (zup S 37 x.toInt.toNat 0 1) x.toInt.toNat)
def sp_cut (S : zS) (x y : Int32) : Nat × Int32 × zS :=
  if ¬ ((0 ≤ x.toInt ∧ x.toInt < S 10 0 0) ∧ (0 ≤ y.toInt ∧ y.toInt < S 15 x.toInt.toNat 0)) then (1, nI 0, S) else if S 33 x.toInt.toNat y.toInt.toNat ≠ 0 ∨ S 37 x.toInt.toNat 0 ≠ 0 ∨ zunc S x.toInt.toNat (S 15 x.toInt.toNat 0) ≤ 1 then (2, nI 0, S) else (0, nI (zunc S x.toInt.toNat (S 15 x.toInt.toNat 0) - 1), znote (zup S 33 x.toInt.toNat y.toInt.toNat 1) x.toInt.toNat)
def sp_bot (S : zS) (x y : Int32) : Nat × Int32 × zS :=
  if ¬ (0 ≤ x.toInt ∧ x.toInt < 10) then (1, nI 0, S) else (0, zb ((S 2 0 0).testBit x.toInt.toNat), if y = nI 0 then zup S 2 0 0 (zclr (S 2 0 0) x.toInt.toNat) else zup S 2 0 0 (S 2 0 0 ||| 2 ^ x.toInt.toNat))
theorem zV_37 (V : zinv S) {i : Nat} (hi : i < S 10 0 0) : zinv (zup S 37 i 0 1) := by
  refine ⟨zH_zup V.1 (by omega), zv_go V.2 [37] [6, 8] (fun f hf => zup_o S (fun y => hf (by rw [y]; exact List.mem_singleton.mpr rfl))) (by decide) ?_⟩
  intro k hk
  simp only [List.mem_cons, List.not_mem_nil, or_false] at hk
  rcases hk with rfl | rfl
  · show ∀ a, a < zup S 37 i 0 1 10 0 0 → zup S 37 i 0 1 36 a 0 ≤ 9999 ∧ zup S 37 i 0 1 37 a 0 ≤ 1
    rw [zup_o S (show (10 : Nat) ≠ 37 by omega), zup_o S (show (36 : Nat) ≠ 37 by omega)]
    intro a ha
    have := zv_6 V a ha
    refine ⟨this.1, ?_⟩
    by_cases z : a = i
    · subst z; rw [zup_s]; omega
    · rw [zup_n S (fun y => z y.2.1)]; exact this.2
  · show ∀ a, a < zup S 37 i 0 1 10 0 0 → zunc (zup S 37 i 0 1) a (zup S 37 i 0 1 15 a 0) = 0 → zup S 37 i 0 1 37 a 0 = 1
    rw [zup_o S (show (10 : Nat) ≠ 37 by omega), zup_o S (show (15 : Nat) ≠ 37 by omega)]
    intro a ha
    rw [zunc_S (zup_o S (by omega))]
    by_cases z : a = i
    · subst z; rw [zup_s]; exact fun _ => rfl
    · rw [zup_n S (fun y => z y.2.1)]; exact zv_8 V a ha
theorem zunc_33 {i j : Nat} (h : S 33 i j = 0) (n : Nat) : zunc (zup S 33 i j 1) i n + (if j < n then 1 else 0) = zunc S i n := by
  induction n with
  | zero => rfl
  | succ n ih =>
    unfold zunc
    by_cases z : n = j
    · subst z
      rw [zup_s, if_neg (by omega : ¬ (1 : Nat) = 0), if_pos h, if_pos (by omega)]
      rw [if_neg (by omega)] at ih
      omega
    · rw [zup_n S (fun y => z y.2.2)]
      by_cases y : j < n
      · rw [if_pos y] at ih; rw [if_pos (by omega : j < n + 1)]; omega
      · rw [if_neg y] at ih; rw [if_neg (by omega : ¬ j < n + 1)]; omega
theorem zV_33 (V : zinv S) {i j : Nat} (hi : i < S 10 0 0) (hj : j < S 15 i 0) (h0 : S 33 i j = 0) (h1 : 1 < zunc S i (S 15 i 0)) : zinv (zup S 33 i j 1) := by
  have u10 := zup_o S (f := 33) (i := i) (j := j) (v := 1) (show (10 : Nat) ≠ 33 by omega)
  have u15 := zup_o S (f := 33) (i := i) (j := j) (v := 1) (show (15 : Nat) ≠ 33 by omega)
  refine ⟨zH_zup V.1 (by omega), zv_go V.2 [33] [4, 7, 8, 9] (fun f hf => zup_o S (fun y => hf (by rw [y]; exact List.mem_singleton.mpr rfl))) (by decide) ?_⟩
  intro k hk
  simp only [List.mem_cons, List.not_mem_nil, or_false] at hk
  have h33 : ∀ a b, zup S 33 i j 1 33 a b ≤ 1 ∨ zup S 33 i j 1 33 a b = S 33 a b := fun a b => by
    unfold zup
    split
    · exact Or.inl (Nat.le_refl _)
    · exact Or.inr rfl
  rcases hk with rfl | rfl | rfl | rfl
  · show ∀ a b, a ≤ zup S 33 i j 1 10 0 0 → b < zup S 33 i j 1 15 a 0 → zup S 33 i j 1 30 a b ≤ 2 ∧ (zup S 33 i j 1 30 a b = 1 → 1 ≤ zup S 33 i j 1 32 a b ∧ zup S 33 i j 1 32 a b ≤ 10) ∧ (zup S 33 i j 1 30 a b = 2 → 1 ≤ zup S 33 i j 1 32 a b) ∧ zup S 33 i j 1 33 a b ≤ 1 ∧ zup S 33 i j 1 34 a b < 1024
    rw [u10, u15, zup_o S (show (30 : Nat) ≠ 33 by omega), zup_o S (show (32 : Nat) ≠ 33 by omega), zup_o S (show (34 : Nat) ≠ 33 by omega)]
    intro a b ha hb
    obtain ⟨p1, p2, p3, p4, p5⟩ := zv_4 V a b ha hb
    refine ⟨p1, p2, p3, ?_, p5⟩
    have := h33 a b
    omega
  · show ∀ a b, a < zup S 33 i j 1 10 0 0 → b < zup S 33 i j 1 15 a 0 → zup S 33 i j 1 33 a b = 0 → zout (zup S 33 i j 1) a b = false
    rw [u10, u15]
    intro a b ha hb hz
    rw [zout_S (zup_o S (by omega)) (zup_o S (by omega)) (zup_o S (by omega))]
    refine zv_7 V a b ha hb ?_
    by_cases z : a = i ∧ b = j
    · obtain ⟨rfl, rfl⟩ := z; exact h0
    · rw [zup_n S (fun y => z y.2)] at hz; exact hz
  · show ∀ a, a < zup S 33 i j 1 10 0 0 → zunc (zup S 33 i j 1) a (zup S 33 i j 1 15 a 0) = 0 → zup S 33 i j 1 37 a 0 = 1
    rw [u10, u15, zup_o S (show (37 : Nat) ≠ 33 by omega)]
    intro a ha hz
    by_cases z : a = i
    · subst z
      have := zunc_33 h0 (S 15 a 0)
      rw [if_pos hj] at this
      omega
    · rw [zunc_i (fun b => zup_n S (fun y => z y.2.1))] at hz
      exact zv_8 V a ha hz
  · show ∀ b, b < zup S 33 i j 1 15 (zup S 33 i j 1 10 0 0) 0 → zup S 33 i j 1 33 (zup S 33 i j 1 10 0 0) b = 0 ∧ zup S 33 i j 1 34 (zup S 33 i j 1 10 0 0) b = 0
    rw [u10, u15, zup_o S (show (34 : Nat) ≠ 33 by omega)]
    intro b hb
    rw [zup_n S (fun y => by omega)]
    exact zv_9 V b hb
/-- the changes' number is the law's care -/
theorem zV_note (V : zinv S) {i : Nat} (hi : i < S 10 0 0) (hn : S 11 0 0 < 1000000) : zinv (znote S i) := by
  unfold znote
  split
  · have u : ∀ f, f ∉ [20, 11] → zchg S i f = S f := fun f hf => by
      simp only [List.mem_cons, List.not_mem_nil, or_false, not_or] at hf
      exact zchg_o S i hf.1 hf.2
    have e11 := zchg_11 S i
    have e20 : zchg S i 20 (S 11 0 0) 0 = i := (zup_n _ (fun z => by omega)).trans (zup_s _ _ _ _ _)
    have e20' : ∀ j, j ≠ S 11 0 0 → zchg S i 20 j 0 = S 20 j 0 := fun j h => (zup_n _ (fun z => by omega)).trans (zup_n S (fun z => h z.2.1))
    have HH : zH (zchg S i) := zchg_H V.1 (by have := V.1 10 0 0; omega) (by omega)
    show zinv (zchg S i)
    generalize zchg S i = S' at *
    refine ⟨HH, zv_go V.2 [20, 11] [10, 11] u (by decide) ?_⟩
    intro k hk
    simp only [List.mem_cons, List.not_mem_nil, or_false] at hk
    rcases hk with rfl | rfl
    · show ∀ j, j < S' 11 0 0 → S' 20 j 0 < S' 10 0 0
      rw [e11, u 10 (by decide)]
      intro j hj
      by_cases z : j = S 11 0 0
      · subst z; rw [e20]; exact hi
      · rw [e20' j z]; exact zv_10 V j (by omega)
    · show ∀ a, a < S' 12 0 0 → S' 39 a 0 ≤ S' 11 0 0 ∧ S' 16 a 0 ≤ 24 ∧ ∀ j, j < S' 16 a 0 → S' 21 a j < S' 10 0 0
      rw [e11, u 10 (by decide), u 12 (by decide), u 39 (by decide), u 16 (by decide), u 21 (by decide)]
      intro a ha
      have := zv_11 V a ha
      exact ⟨by omega, this.2⟩
  · exact V
end ZRI
