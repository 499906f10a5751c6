/-! THE CALLS (9): the model's campaign -/
section ZRL
variable {G : za_G} {A : zA} {B : zB} {S Sx : zS} {T : zT} {r0 : za_H}
theorem zcamp_o (S : zS) (p g s f t m d : Nat) {h : Nat} (h1 : h ≤ 39 ∨ 48 ≤ h) (h2 : h ≠ 13) : zcamp S p g s f t m d h = S h := by
  unfold zcamp
  rw [zup_o _ h2, zcf_o _ _ _ _ _ _ _ _ _ h1]
theorem zR_camp (R : zR S T) (h8 : S 13 0 0 < 8) {p g s f t m d : Nat} : zR (zcamp S p g s f t m d) (zmca T (S 13 0 0) (nI p) (nI g) (nI s) (nI f) (nI t) (nI m) (nI d)) := by
  obtain ⟨e13, ⟨e40, e41, e42, e43, e44, e45, e46, e47⟩, en⟩ := zcamp_e S p g s f t m d
  have hfo : ∀ h, h ∉ [13, 40, 41, 42, 43, 44, 45, 46, 47] → zcamp S p g s f t m d h = S h := fun h hg => by
    simp only [List.mem_cons, List.not_mem_nil, or_false, not_or] at hg
    exact zcamp_o S _ _ _ _ _ _ _ (by omega) hg.1
  have hT : ∀ k, k ∉ [23, 24, 25, 26, 27, 28, 29, 30] → (zmca T (S 13 0 0) (nI p) (nI g) (nI s) (nI f) (nI t) (nI m) (nI d)).1 k = T.1 k := fun k hk => by
    simp only [List.mem_cons, List.not_mem_nil, or_false, not_or] at hk
    unfold zmca
    rw [ztu_ne _ _ (by omega), ztu_ne _ _ (by omega), ztu_ne _ _ (by omega), ztu_ne _ _ (by omega), ztu_ne _ _ (by omega), ztu_ne _ _ (by omega), ztu_ne _ _ (by omega), ztu_ne _ _ (by omega)]
  have t23 : (zmca T (S 13 0 0) (nI p) (nI g) (nI s) (nI f) (nI t) (nI m) (nI d)).1 23 0 = nI (S 13 0 0 + 1) := by unfold zmca; rw [ztu_s]; rfl
  have t24 : (zmca T (S 13 0 0) (nI p) (nI g) (nI s) (nI f) (nI t) (nI m) (nI d)).1 24 = upd (T.1 24) (S 13 0 0) (nI p) := by unfold zmca; simp [ztu]
  have t25 : (zmca T (S 13 0 0) (nI p) (nI g) (nI s) (nI f) (nI t) (nI m) (nI d)).1 25 = upd (T.1 25) (S 13 0 0) (nI g) := by unfold zmca; simp [ztu]
  have t26 : (zmca T (S 13 0 0) (nI p) (nI g) (nI s) (nI f) (nI t) (nI m) (nI d)).1 26 = upd (T.1 26) (S 13 0 0) (nI s) := by unfold zmca; simp [ztu]
  have t27 : (zmca T (S 13 0 0) (nI p) (nI g) (nI s) (nI f) (nI t) (nI m) (nI d)).1 27 = upd (T.1 27) (S 13 0 0) (nI f) := by unfold zmca; simp [ztu]
  have t28 : (zmca T (S 13 0 0) (nI p) (nI g) (nI s) (nI f) (nI t) (nI m) (nI d)).1 28 = upd (T.1 28) (S 13 0 0) (nI t) := by unfold zmca; simp [ztu]
  have t29 : (zmca T (S 13 0 0) (nI p) (nI g) (nI s) (nI f) (nI t) (nI m) (nI d)).1 29 = upd (T.1 29) (S 13 0 0) (nI m) := by unfold zmca; simp [ztu]
  have t30 : (zmca T (S 13 0 0) (nI p) (nI g) (nI s) (nI f) (nI t) (nI m) (nI d)).1 30 = upd (T.1 30) (S 13 0 0) (nI d) := by unfold zmca; simp [ztu]
  generalize zmca T (S 13 0 0) (nI p) (nI g) (nI s) (nI f) (nI t) (nI m) (nI d) = T' at *
  generalize zcamp S p g s f t m d = S' at *
  refine ⟨zR_go R.1 [13, 40, 41, 42, 43, 44, 45, 46, 47] [23, 24, 25, 26, 27, 28, 29, 30] [23, 24, 25, 26, 27, 28, 29, 30, 31] hfo hT (by decide) ?_, fun d s hd hs => ?_⟩
  · intro k hk
    simp only [List.mem_cons, List.not_mem_nil, or_false] at hk
    rcases hk with rfl | rfl | rfl | rfl | rfl | rfl | rfl | rfl | rfl
    · show T'.1 23 0 = nI (S' 13 0 0)
      rw [t23, e13]
    · show ∀ c, c < S' 13 0 0 → T'.1 24 c = nI (S' 40 c 0)
      rw [t24, e13]
      intro c hc
      by_cases z : c = S 13 0 0
      · subst z; rw [zupd_s, e40]
      · rw [zupd_n _ _ z, en 40 c (by omega) z]; exact zr_24 R c (by omega)
    · show ∀ c, c < S' 13 0 0 → T'.1 25 c = nI (S' 41 c 0)
      rw [t25, e13]
      intro c hc
      by_cases z : c = S 13 0 0
      · subst z; rw [zupd_s, e41]
      · rw [zupd_n _ _ z, en 41 c (by omega) z]; exact zr_25 R c (by omega)
    · show ∀ c, c < S' 13 0 0 → T'.1 26 c = nI (S' 42 c 0)
      rw [t26, e13]
      intro c hc
      by_cases z : c = S 13 0 0
      · subst z; rw [zupd_s, e42]
      · rw [zupd_n _ _ z, en 42 c (by omega) z]; exact zr_26 R c (by omega)
    · show ∀ c, c < S' 13 0 0 → T'.1 27 c = nI (S' 43 c 0)
      rw [t27, e13]
      intro c hc
      by_cases z : c = S 13 0 0
      · subst z; rw [zupd_s, e43]
      · rw [zupd_n _ _ z, en 43 c (by omega) z]; exact zr_27 R c (by omega)
    · show ∀ c, c < S' 13 0 0 → T'.1 28 c = nI (S' 44 c 0)
      rw [t28, e13]
      intro c hc
      by_cases z : c = S 13 0 0
      · subst z; rw [zupd_s, e44]
      · rw [zupd_n _ _ z, en 44 c (by omega) z]; exact zr_28 R c (by omega)
    · show ∀ c, c < S' 13 0 0 → T'.1 29 c = nI (S' 45 c 0)
      rw [t29, e13]
      intro c hc
      by_cases z : c = S 13 0 0
      · subst z; rw [zupd_s, e45]
      · rw [zupd_n _ _ z, en 45 c (by omega) z]; exact zr_29 R c (by omega)
    · show ∀ c, c < S' 13 0 0 → T'.1 30 c = nI (S' 46 c 0)
      rw [t30, e13]
      intro c hc
      by_cases z : c = S 13 0 0
      · subst z; rw [zupd_s, e46]
      · rw [zupd_n _ _ z, en 46 c (by omega) z]; exact zr_30 R c (by omega)
    · show ∀ c, c < 8 → T'.1 31 c = nI (if c < S' 13 0 0 then S' 47 c 0 else 0)
      rw [hT 31 (by decide), e13]
      intro c hc
      have h := zr_31 R c hc
      by_cases z : c = S 13 0 0
      · subst z
        rw [if_neg (Nat.lt_irrefl _)] at h
        rw [h, if_pos (Nat.lt_succ_self _), e47]
      · rw [h, en 47 c (by omega) z]
        congr 1
        by_cases y : c < S 13 0 0
        · rw [if_pos y, if_pos (by omega)]
        · rw [if_neg y, if_neg (by omega)]
  · rw [hfo 14 (by decide), hfo 3 (by decide), hfo 18 (by decide), zmr_T (hT 46 (by decide)) (hT 47 (by decide)) (hT 48 (by decide)), zld_S (hfo 59 (by decide)) (hfo 60 (by decide))]
    exact R.2 d s hd hs
theorem zV_camp (V : zinv S) (h8 : S 13 0 0 < 8) {p g s f t m d : Nat} (hp : p ≤ 2) (hg : g < 5) (hs : s ≤ 60) (hf : f < t) (ht : t ≤ 9999) (hm : m ≤ 99) (hd : d ≤ 3) : zinv (zcamp S p g s f t m d) := by
  obtain ⟨e13, ⟨e40, e41, e42, e43, e44, e45, e46, e47⟩, en⟩ := zcamp_e S p g s f t m d
  have hfo : ∀ h, h ∉ [13, 40, 41, 42, 43, 44, 45, 46, 47] → zcamp S p g s f t m d h = S h := fun h hg => by
    simp only [List.mem_cons, List.not_mem_nil, or_false, not_or] at hg
    exact zcamp_o S _ _ _ _ _ _ _ (by omega) hg.1
  have HH : zH (zcamp S p g s f t m d) := by
    unfold zcamp zcf
    refine zH_zup (zH_zup (zH_zup (zH_zup (zH_zup (zH_zup (zH_zup (zH_zup (zH_zup V.1 ?_) ?_) ?_) ?_) ?_) ?_) ?_) ?_) ?_ <;> omega
  generalize zcamp S p g s f t m d = S' at *
  obtain ⟨g1, g2, g3, g4, g5⟩ := zv_2 V
  have k15 := zv_15 V
  have en' : ∀ h c, h ≠ 13 → c < S 13 0 0 → S' h c 0 = S h c 0 := fun h c h1 h2 => by rw [en h c h1 (by omega)]
  have zpq' : ∀ d k, d < S 14 0 0 → k < S 17 d 0 → zpq S' d k = zpq S d k := fun d k hd hk => by
    unfold zpq
    rw [hfo 58 (by decide), hfo 49 (by decide), hfo 55 (by decide), hfo 31 (by decide)]
    have := (k15 d k hd hk).2.1
    by_cases z : S 58 d k = 0
    · rw [if_pos z, if_pos z]
    · rw [if_neg z, if_neg z, en' 42 _ (by omega) (by omega)]
  have zso' : ∀ d k, d < S 14 0 0 → k ≤ S 17 d 0 → zso S' d k = zso S d k := fun d k hd => by
    induction k with
    | zero => intro _; rfl
    | succ k ih => intro hk; unfold zso; rw [ih (by omega), zpq' d k hd (by omega)]
  refine ⟨HH, zv_go V.2 [13, 40, 41, 42, 43, 44, 45, 46, 47] [2, 12, 13, 15, 16, 19] hfo (by decide) ?_⟩
  intro k hk
  simp only [List.mem_cons, List.not_mem_nil, or_false] at hk
  rcases hk with rfl | rfl | rfl | rfl | rfl | rfl
  · show S' 10 0 0 ≤ 24 ∧ S' 12 0 0 ≤ 6 ∧ S' 13 0 0 ≤ 8 ∧ S' 14 0 0 ≤ 60 ∧ S' 19 0 0 = S' 14 0 0
    rw [hfo 10 (by decide), hfo 12 (by decide), hfo 14 (by decide), hfo 19 (by decide), e13]
    exact ⟨g1, g2, by omega, g4, g5⟩
  · show ∀ c, c < S' 13 0 0 → S' 41 c 0 < 5 ∧ S' 43 c 0 < S' 44 c 0 ∧ S' 45 c 0 ≤ 99 ∧ S' 42 c 0 ≤ 60 ∧ S' 44 c 0 ≤ 9999 ∧ S' 40 c 0 ≤ 2 ∧ S' 46 c 0 ≤ 3
    rw [e13]
    intro c hc
    by_cases z : c = S 13 0 0
    · subst z
      rw [e41, e43, e44, e45, e42, e40, e46]
      exact ⟨hg, hf, hm, hs, ht, hp, hd⟩
    · have h9 : c < S 13 0 0 := by omega
      rw [en' 41 c (by omega) h9, en' 43 c (by omega) h9, en' 44 c (by omega) h9, en' 45 c (by omega) h9, en' 42 c (by omega) h9, en' 40 c (by omega) h9, en' 46 c (by omega) h9]
      exact zv_12 V c h9
  · show ∀ c, S' 47 c 0 ≤ 10 * S' 14 0 0
    rw [hfo 14 (by decide)]
    intro c
    by_cases z : c = S 13 0 0
    · subst z; rw [e47]; omega
    · rw [en 47 c (by omega) z]; exact zv_13 V c
  · show ∀ d k, d < S' 14 0 0 → k < S' 17 d 0 → S' 55 d k < S' 15 (S' 49 d 0) 0 ∧ S' 58 d k ≤ S' 13 0 0 ∧ S' 56 d k = zso S' d k ∧ S' 57 d k = zso S' d (k + 1)
    rw [hfo 14 (by decide), hfo 17 (by decide), hfo 55 (by decide), hfo 15 (by decide), hfo 49 (by decide), hfo 58 (by decide), hfo 56 (by decide), hfo 57 (by decide), e13]
    intro d k hd hk
    rw [zso' d k hd (by omega), zso' d (k + 1) hd (by omega)]
    obtain ⟨p1, p2, p3, p4⟩ := k15 d k hd hk
    exact ⟨p1, by omega, p3, p4⟩
  · show ∀ d, d < S' 14 0 0 → S' 51 d 0 = zso S' d (S' 17 d 0)
    rw [hfo 14 (by decide), hfo 17 (by decide), hfo 51 (by decide)]
    intro d hd
    rw [zso' d _ hd (Nat.le_refl _)]
    exact zv_16 V d hd
  · show ∀ d g, d < S' 14 0 0 → ((S' 54 d 0).testBit g = true ↔ ∃ k c, k < S' 17 d 0 ∧ S' 58 d k = c + 1 ∧ S' 41 c 0 = g)
    rw [hfo 14 (by decide), hfo 17 (by decide), hfo 54 (by decide), hfo 58 (by decide)]
    intro d g hd
    rw [zv_19 V d g hd]
    constructor
    · rintro ⟨k, c, a1, a2, a3⟩
      have := (k15 d k hd a1).2.1
      exact ⟨k, c, a1, a2, by rw [en' 41 c (by omega) (by omega)]; exact a3⟩
    · rintro ⟨k, c, a1, a2, a3⟩
      have := (k15 d k hd a1).2.1
      exact ⟨k, c, a1, a2, by rw [en' 41 c (by omega) (by omega)] at a3; exact a3⟩
set_option maxRecDepth 8192 in
theorem n_campaign (F : za_F G) (M : zMo A B) (R : zR S T) (V : zinv S) (x1 x2 x3 x4 x5 x6 x7 : Int32) (K : za_O → za_H → Prop)
    (q : ∀ T', zR (sp_campaign S x1 x2 x3 x4 x5 x6 x7).2.2 T' → T'.1 49 0 = nI (sp_campaign S x1 x2 x3 x4 x5 x6 x7).1 → K (.inl (some (.int (sp_campaign S x1 x2 x3 x4 x5 x6 x7).2.1))) (zmk A B Sx T' r0)) : za_P G mX8_campaign [.ref (A.1 (30, 0, 0)), .int x1, .int x2, .int x3, .int x4, .int x5, .int x6, .int x7] (zmk A B Sx T r0) 0 0 K := by
  obtain ⟨g1, g2, g3, g4, g5⟩ := zv_2 V
  have h23 := zr_23 R
  unfold sp_campaign at q
  refine za_m (y := yX8_campaign) (cc := cX8_campaign) (nL := 9) (ret := (some .int)) (hh := []) (fr := 2) (lk := lkX8) (hx := []) (ini := false) (cuts := fun p => p == 40) F okX8 trivial (by decide +kernel) (by decide +kernel) (Nat.le_of_ble_eq_true rfl) (by simp [Value.category]) (fun w hw => ?_)
  have bad : ∀ (u : Int32) k, k < 100 → k ≠ 0 → (∀ T', zR S T' → T'.1 49 0 = nI k → K (.inl (some (.int (nI 0)))) (zmk A B Sx T' r0)) → w 40 [some (.ref (A.1 (30, 0, 0))), some (.int x1), some (.int x2), some (.int x3), some (.int x4), some (.int x5), some (.int x6), some (.int x7), some (.int u)] [.int (nI k), .ref (A.1 (30, 0, 0))] (zmk A B Sx T r0) 0 0 := by
    intro u k hk h0 q
    have fk := zR_f R (nI k)
    refine hw 60 _ _ _ _ _ _ ?_
    simp only [za_lv_0, za_lv_s, za_isI_i, za_rf_r, za_rf_n, za_rf_v, za_ck_r, za_isC_eq, zs_f, zs_d, zs_iconst, zs_bipush, zs_sipush, zs_lconst, zs_null, zs_iload_n, zs_iload, zs_aload_n, zs_aload, za_iv_i, zs_iinc, zs_istore_n, zs_istore, zs_astore_n, zs_astore, zs_iadd, zs_isub, zs_imul, zs_iand, zs_ior, zs_ixor, zs_ishl, zs_ishr, zs_idiv, zs_i2l, zs_lcmp, zs_dup, zs_dup_x1, zs_dup2, zs_pop, zs_goto, zs_icmp, zs_ifc, zs_nonnull, zs_acmp_eq, zs_acmp_ne, za_sw_s, zs_switch, za_iaload_s, zs_iaload, za_baload_s, zs_baload, za_laload_s, zs_laload, za_aaload_s, zs_aaload, za_iastore_s, zs_iastore, za_bastore_s, zs_bastore, za_lastore_s, zs_lastore, za_aasN_s, zs_aastoreN, za_aas_s, zs_aastore, za_alg_s, za_alg_n, zs_alen, za_gf_s, za_vl_0, za_vl_s, zs_getfield, za_pf_s, zs_putfield, za_nw_s, za_nw_t, za_tx_1, za_tx_2, zs_th, zs_new, zs_newarray, za_cx_s, zs_checkcast, za_vB_s, za_vA_s, za_sX_s, za_sN_s, za_sA_5, za_sA_6, za_sA_1, za_sA_3, za_oB_s, za_iA_2, za_iA_4, zs_invokevirtual, zs_invokestatic, zs_invokespecial, zs_ireturn, zs_return, zs_areturn, zs_areturnA, za_ex0, za_go_eq, za_fit_i, za_fit_b, za_fit_b0, za_fit_b1, za_fit_r, za_fit_n, za_fit_a, za_up_s, za_upup, za_fn_0, za_fn_1, za_fn_2, za_fn_3, za_cd_eq, za_cd_ne, za_cd_lt, za_cd_ge, za_cd_gt, za_cd_le, za_cat_i, za_cat_r, za_cat_n, zb_n0, zb_n1, zb_narrow, zn_narrow, Option.toList_some, Option.toList_none, List.set_cons_zero, List.set_cons_succ, List.length_cons, List.length_nil, List.take_succ_cons, List.take_zero, List.drop_succ_cons, List.drop_zero, List.reverse_cons, List.reverse_nil, List.nil_append, List.cons_append, List.map_cons, List.map_nil, List.replicate_succ, List.replicate_zero, true_and, and_true, true_or, or_true, false_or, or_false, eq_self, not_true_eq_false, not_false_eq_true, false_implies, true_implies, implies_true, and_self, Nat.zero_add, Nat.add_zero, Nat.le_refl, Nat.zero_le, Nat.reduceEqDiff, if_true, if_false, za_t.eq_1, za_t0.eq_1, Int.cast_ofNat_Int, Int.reduceAdd, Int.reduceToNat, Int.reduceLE, Int.reduceNeg, Nat.reduceAdd, Nat.reduceSub, Nat.reduceBEq, Nat.reduceLT, Nat.reduceLeDiff, ↓reduceIte, Bool.false_eq_true, Bool.or_false, Bool.or_true, Bool.false_or, Bool.true_or, decide_true, decide_false, ge_iff_le, gt_iff_lt, dX8_campaign_0, dX8_campaign_1, dX8_campaign_2, dX8_campaign_3, dX8_campaign_5, dX8_campaign_7, dX8_campaign_9, dX8_campaign_11, dX8_campaign_14, dX8_campaign_16, dX8_campaign_17, dX8_campaign_19, dX8_campaign_22, dX8_campaign_23, dX8_campaign_26, dX8_campaign_27, dX8_campaign_30, dX8_campaign_32, dX8_campaign_35, dX8_campaign_36, dX8_campaign_39, dX8_campaign_40, dX8_campaign_43, dX8_campaign_46, dX8_campaign_47, dX8_campaign_48, dX8_campaign_49, dX8_campaign_52, dX8_campaign_53, dX8_campaign_56, dX8_campaign_57, dX8_campaign_58, dX8_campaign_59, dX8_campaign_62, dX8_campaign_63, dX8_campaign_66, dX8_campaign_67, dX8_campaign_68, dX8_campaign_69, dX8_campaign_72, dX8_campaign_73, dX8_campaign_76, dX8_campaign_77, dX8_campaign_78, dX8_campaign_79, dX8_campaign_82, dX8_campaign_83, dX8_campaign_86, dX8_campaign_88, dX8_campaign_89, dX8_campaign_90, dX8_campaign_93, dX8_campaign_94, dX8_campaign_97, dX8_campaign_99, dX8_campaign_100, dX8_campaign_101, dX8_campaign_104, dX8_campaign_105, dX8_campaign_108, dX8_campaign_110, dX8_campaign_111, dX8_campaign_112, dX8_campaign_115, dX8_campaign_116, dX8_campaign_119, dX8_campaign_121, dX8_campaign_122, dX8_campaign_123, dX8_campaign_124, dX8_campaign_127, dX8_campaign_128, dX8_campaign_129, dX8_campaign_132, dX8_campaign_133, dX8_campaign_136, dX8_campaign_137, dX8_campaign_138, uX8_f65, uX8_f68, uX8_f71, uX8_f74, uX8_f77, uX8_f80, uX8_f83, uX8_m152, uX8_m194, uX8_f198, zi_b8, zi_i0, zi_i1, zi_i2, (zmo M), zM_len, ne_eq, ztu_ne, ztu_s, zfc_e, Nat.reduceMul, zM_23, (zmt_23 M), zM_24, (zml_24 M), (zmu_24 M), zM_25, (zml_25 M), (zmu_25 M), zM_26, (zml_26 M), (zmu_26 M), zM_27, (zml_27 M), (zmu_27 M), zM_28, (zml_28 M), (zmu_28 M), zM_29, (zml_29 M), (zmu_29 M), zM_30, (zml_30 M), (zmu_30 M)]
    refine za_call (mc' := 0) (ms' := 0) (by omega) (by omega) (m_isFine F M _ _ (fun y => absurd y (by rw [zn_eq (by omega) (by omega)]; exact h0)) (fun y => ?_))
    simp only [za_lv_0, za_lv_s, za_isI_i, za_rf_r, za_rf_n, za_rf_v, za_ck_r, za_isC_eq, zs_f, zs_d, zs_iconst, zs_bipush, zs_sipush, zs_lconst, zs_null, zs_iload_n, zs_iload, zs_aload_n, zs_aload, za_iv_i, zs_iinc, zs_istore_n, zs_istore, zs_astore_n, zs_astore, zs_iadd, zs_isub, zs_imul, zs_iand, zs_ior, zs_ixor, zs_ishl, zs_ishr, zs_idiv, zs_i2l, zs_lcmp, zs_dup, zs_dup_x1, zs_dup2, zs_pop, zs_goto, zs_icmp, zs_ifc, zs_nonnull, zs_acmp_eq, zs_acmp_ne, za_sw_s, zs_switch, za_iaload_s, zs_iaload, za_baload_s, zs_baload, za_laload_s, zs_laload, za_aaload_s, zs_aaload, za_iastore_s, zs_iastore, za_bastore_s, zs_bastore, za_lastore_s, zs_lastore, za_aasN_s, zs_aastoreN, za_aas_s, zs_aastore, za_alg_s, za_alg_n, zs_alen, za_gf_s, za_vl_0, za_vl_s, zs_getfield, za_pf_s, zs_putfield, za_nw_s, za_nw_t, za_tx_1, za_tx_2, zs_th, zs_new, zs_newarray, za_cx_s, zs_checkcast, za_vB_s, za_vA_s, za_sX_s, za_sN_s, za_sA_5, za_sA_6, za_sA_1, za_sA_3, za_oB_s, za_iA_2, za_iA_4, zs_invokevirtual, zs_invokestatic, zs_invokespecial, zs_ireturn, zs_return, zs_areturn, zs_areturnA, za_ex0, za_go_eq, za_fit_i, za_fit_b, za_fit_b0, za_fit_b1, za_fit_r, za_fit_n, za_fit_a, za_up_s, za_upup, za_fn_0, za_fn_1, za_fn_2, za_fn_3, za_cd_eq, za_cd_ne, za_cd_lt, za_cd_ge, za_cd_gt, za_cd_le, za_cat_i, za_cat_r, za_cat_n, zb_n0, zb_n1, zb_narrow, zn_narrow, Option.toList_some, Option.toList_none, List.set_cons_zero, List.set_cons_succ, List.length_cons, List.length_nil, List.take_succ_cons, List.take_zero, List.drop_succ_cons, List.drop_zero, List.reverse_cons, List.reverse_nil, List.nil_append, List.cons_append, List.map_cons, List.map_nil, List.replicate_succ, List.replicate_zero, true_and, and_true, true_or, or_true, false_or, or_false, eq_self, not_true_eq_false, not_false_eq_true, false_implies, true_implies, implies_true, and_self, Nat.zero_add, Nat.add_zero, Nat.le_refl, Nat.zero_le, Nat.reduceEqDiff, if_true, if_false, za_t.eq_1, za_t0.eq_1, Int.cast_ofNat_Int, Int.reduceAdd, Int.reduceToNat, Int.reduceLE, Int.reduceNeg, Nat.reduceAdd, Nat.reduceSub, Nat.reduceBEq, Nat.reduceLT, Nat.reduceLeDiff, ↓reduceIte, Bool.false_eq_true, Bool.or_false, Bool.or_true, Bool.false_or, Bool.true_or, decide_true, decide_false, ge_iff_le, gt_iff_lt, dX8_campaign_0, dX8_campaign_1, dX8_campaign_2, dX8_campaign_3, dX8_campaign_5, dX8_campaign_7, dX8_campaign_9, dX8_campaign_11, dX8_campaign_14, dX8_campaign_16, dX8_campaign_17, dX8_campaign_19, dX8_campaign_22, dX8_campaign_23, dX8_campaign_26, dX8_campaign_27, dX8_campaign_30, dX8_campaign_32, dX8_campaign_35, dX8_campaign_36, dX8_campaign_39, dX8_campaign_40, dX8_campaign_43, dX8_campaign_46, dX8_campaign_47, dX8_campaign_48, dX8_campaign_49, dX8_campaign_52, dX8_campaign_53, dX8_campaign_56, dX8_campaign_57, dX8_campaign_58, dX8_campaign_59, dX8_campaign_62, dX8_campaign_63, dX8_campaign_66, dX8_campaign_67, dX8_campaign_68, dX8_campaign_69, dX8_campaign_72, dX8_campaign_73, dX8_campaign_76, dX8_campaign_77, dX8_campaign_78, dX8_campaign_79, dX8_campaign_82, dX8_campaign_83, dX8_campaign_86, dX8_campaign_88, dX8_campaign_89, dX8_campaign_90, dX8_campaign_93, dX8_campaign_94, dX8_campaign_97, dX8_campaign_99, dX8_campaign_100, dX8_campaign_101, dX8_campaign_104, dX8_campaign_105, dX8_campaign_108, dX8_campaign_110, dX8_campaign_111, dX8_campaign_112, dX8_campaign_115, dX8_campaign_116, dX8_campaign_119, dX8_campaign_121, dX8_campaign_122, dX8_campaign_123, dX8_campaign_124, dX8_campaign_127, dX8_campaign_128, dX8_campaign_129, dX8_campaign_132, dX8_campaign_133, dX8_campaign_136, dX8_campaign_137, dX8_campaign_138, uX8_f65, uX8_f68, uX8_f71, uX8_f74, uX8_f77, uX8_f80, uX8_f83, uX8_m152, uX8_m194, uX8_f198, zi_b8, zi_i0, zi_i1, zi_i2, (zmo M), zM_len, ne_eq, ztu_ne, ztu_s, zfc_e, Nat.reduceMul, zM_23, (zmt_23 M), zM_24, (zml_24 M), (zmu_24 M), zM_25, (zml_25 M), (zmu_25 M), zM_26, (zml_26 M), (zmu_26 M), zM_27, (zml_27 M), (zmu_27 M), zM_28, (zml_28 M), (zmu_28 M), zM_29, (zml_29 M), (zmu_29 M), zM_30, (zml_30 M), (zmu_30 M)]
    exact q _ fk.1 fk.2
  refine hw 60 _ _ _ _ _ _ ?_
  simp only [za_lv_0, za_lv_s, za_isI_i, za_rf_r, za_rf_n, za_rf_v, za_ck_r, za_isC_eq, zs_f, zs_d, zs_iconst, zs_bipush, zs_sipush, zs_lconst, zs_null, zs_iload_n, zs_iload, zs_aload_n, zs_aload, za_iv_i, zs_iinc, zs_istore_n, zs_istore, zs_astore_n, zs_astore, zs_iadd, zs_isub, zs_imul, zs_iand, zs_ior, zs_ixor, zs_ishl, zs_ishr, zs_idiv, zs_i2l, zs_lcmp, zs_dup, zs_dup_x1, zs_dup2, zs_pop, zs_goto, zs_icmp, zs_ifc, zs_nonnull, zs_acmp_eq, zs_acmp_ne, za_sw_s, zs_switch, za_iaload_s, zs_iaload, za_baload_s, zs_baload, za_laload_s, zs_laload, za_aaload_s, zs_aaload, za_iastore_s, zs_iastore, za_bastore_s, zs_bastore, za_lastore_s, zs_lastore, za_aasN_s, zs_aastoreN, za_aas_s, zs_aastore, za_alg_s, za_alg_n, zs_alen, za_gf_s, za_vl_0, za_vl_s, zs_getfield, za_pf_s, zs_putfield, za_nw_s, za_nw_t, za_tx_1, za_tx_2, zs_th, zs_new, zs_newarray, za_cx_s, zs_checkcast, za_vB_s, za_vA_s, za_sX_s, za_sN_s, za_sA_5, za_sA_6, za_sA_1, za_sA_3, za_oB_s, za_iA_2, za_iA_4, zs_invokevirtual, zs_invokestatic, zs_invokespecial, zs_ireturn, zs_return, zs_areturn, zs_areturnA, za_ex0, za_go_eq, za_fit_i, za_fit_b, za_fit_b0, za_fit_b1, za_fit_r, za_fit_n, za_fit_a, za_up_s, za_upup, za_fn_0, za_fn_1, za_fn_2, za_fn_3, za_cd_eq, za_cd_ne, za_cd_lt, za_cd_ge, za_cd_gt, za_cd_le, za_cat_i, za_cat_r, za_cat_n, zb_n0, zb_n1, zb_narrow, zn_narrow, Option.toList_some, Option.toList_none, List.set_cons_zero, List.set_cons_succ, List.length_cons, List.length_nil, List.take_succ_cons, List.take_zero, List.drop_succ_cons, List.drop_zero, List.reverse_cons, List.reverse_nil, List.nil_append, List.cons_append, List.map_cons, List.map_nil, List.replicate_succ, List.replicate_zero, true_and, and_true, true_or, or_true, false_or, or_false, eq_self, not_true_eq_false, not_false_eq_true, false_implies, true_implies, implies_true, and_self, Nat.zero_add, Nat.add_zero, Nat.le_refl, Nat.zero_le, Nat.reduceEqDiff, if_true, if_false, za_t.eq_1, za_t0.eq_1, Int.cast_ofNat_Int, Int.reduceAdd, Int.reduceToNat, Int.reduceLE, Int.reduceNeg, Nat.reduceAdd, Nat.reduceSub, Nat.reduceBEq, Nat.reduceLT, Nat.reduceLeDiff, ↓reduceIte, Bool.false_eq_true, Bool.or_false, Bool.or_true, Bool.false_or, Bool.true_or, decide_true, decide_false, ge_iff_le, gt_iff_lt, dX8_campaign_0, dX8_campaign_1, dX8_campaign_2, dX8_campaign_3, dX8_campaign_5, dX8_campaign_7, dX8_campaign_9, dX8_campaign_11, dX8_campaign_14, dX8_campaign_16, dX8_campaign_17, dX8_campaign_19, dX8_campaign_22, dX8_campaign_23, dX8_campaign_26, dX8_campaign_27, dX8_campaign_30, dX8_campaign_32, dX8_campaign_35, dX8_campaign_36, dX8_campaign_39, dX8_campaign_40, dX8_campaign_43, dX8_campaign_46, dX8_campaign_47, dX8_campaign_48, dX8_campaign_49, dX8_campaign_52, dX8_campaign_53, dX8_campaign_56, dX8_campaign_57, dX8_campaign_58, dX8_campaign_59, dX8_campaign_62, dX8_campaign_63, dX8_campaign_66, dX8_campaign_67, dX8_campaign_68, dX8_campaign_69, dX8_campaign_72, dX8_campaign_73, dX8_campaign_76, dX8_campaign_77, dX8_campaign_78, dX8_campaign_79, dX8_campaign_82, dX8_campaign_83, dX8_campaign_86, dX8_campaign_88, dX8_campaign_89, dX8_campaign_90, dX8_campaign_93, dX8_campaign_94, dX8_campaign_97, dX8_campaign_99, dX8_campaign_100, dX8_campaign_101, dX8_campaign_104, dX8_campaign_105, dX8_campaign_108, dX8_campaign_110, dX8_campaign_111, dX8_campaign_112, dX8_campaign_115, dX8_campaign_116, dX8_campaign_119, dX8_campaign_121, dX8_campaign_122, dX8_campaign_123, dX8_campaign_124, dX8_campaign_127, dX8_campaign_128, dX8_campaign_129, dX8_campaign_132, dX8_campaign_133, dX8_campaign_136, dX8_campaign_137, dX8_campaign_138, uX8_f65, uX8_f68, uX8_f71, uX8_f74, uX8_f77, uX8_f80, uX8_f83, uX8_m152, uX8_m194, uX8_f198, zi_b8, zi_i0, zi_i1, zi_i2, (zmo M), zM_len, ne_eq, ztu_ne, ztu_s, zfc_e, Nat.reduceMul, zM_23, (zmt_23 M), zM_24, (zml_24 M), (zmu_24 M), zM_25, (zml_25 M), (zmu_25 M), zM_26, (zml_26 M), (zmu_26 M), zM_27, (zml_27 M), (zmu_27 M), zM_28, (zml_28 M), (zmu_28 M), zM_29, (zml_29 M), (zmu_29 M), zM_30, (zml_30 M), (zmu_30 M)]
  refine za_call (mc' := 0) (ms' := 0) (by omega) (by omega) (m_areRight F _ _ _ _ _ _ _ _ _ ?_)
  simp only [za_lv_0, za_lv_s, za_isI_i, za_rf_r, za_rf_n, za_rf_v, za_ck_r, za_isC_eq, zs_f, zs_d, zs_iconst, zs_bipush, zs_sipush, zs_lconst, zs_null, zs_iload_n, zs_iload, zs_aload_n, zs_aload, za_iv_i, zs_iinc, zs_istore_n, zs_istore, zs_astore_n, zs_astore, zs_iadd, zs_isub, zs_imul, zs_iand, zs_ior, zs_ixor, zs_ishl, zs_ishr, zs_idiv, zs_i2l, zs_lcmp, zs_dup, zs_dup_x1, zs_dup2, zs_pop, zs_goto, zs_icmp, zs_ifc, zs_nonnull, zs_acmp_eq, zs_acmp_ne, za_sw_s, zs_switch, za_iaload_s, zs_iaload, za_baload_s, zs_baload, za_laload_s, zs_laload, za_aaload_s, zs_aaload, za_iastore_s, zs_iastore, za_bastore_s, zs_bastore, za_lastore_s, zs_lastore, za_aasN_s, zs_aastoreN, za_aas_s, zs_aastore, za_alg_s, za_alg_n, zs_alen, za_gf_s, za_vl_0, za_vl_s, zs_getfield, za_pf_s, zs_putfield, za_nw_s, za_nw_t, za_tx_1, za_tx_2, zs_th, zs_new, zs_newarray, za_cx_s, zs_checkcast, za_vB_s, za_vA_s, za_sX_s, za_sN_s, za_sA_5, za_sA_6, za_sA_1, za_sA_3, za_oB_s, za_iA_2, za_iA_4, zs_invokevirtual, zs_invokestatic, zs_invokespecial, zs_ireturn, zs_return, zs_areturn, zs_areturnA, za_ex0, za_go_eq, za_fit_i, za_fit_b, za_fit_b0, za_fit_b1, za_fit_r, za_fit_n, za_fit_a, za_up_s, za_upup, za_fn_0, za_fn_1, za_fn_2, za_fn_3, za_cd_eq, za_cd_ne, za_cd_lt, za_cd_ge, za_cd_gt, za_cd_le, za_cat_i, za_cat_r, za_cat_n, zb_n0, zb_n1, zb_narrow, zn_narrow, Option.toList_some, Option.toList_none, List.set_cons_zero, List.set_cons_succ, List.length_cons, List.length_nil, List.take_succ_cons, List.take_zero, List.drop_succ_cons, List.drop_zero, List.reverse_cons, List.reverse_nil, List.nil_append, List.cons_append, List.map_cons, List.map_nil, List.replicate_succ, List.replicate_zero, true_and, and_true, true_or, or_true, false_or, or_false, eq_self, not_true_eq_false, not_false_eq_true, false_implies, true_implies, implies_true, and_self, Nat.zero_add, Nat.add_zero, Nat.le_refl, Nat.zero_le, Nat.reduceEqDiff, if_true, if_false, za_t.eq_1, za_t0.eq_1, Int.cast_ofNat_Int, Int.reduceAdd, Int.reduceToNat, Int.reduceLE, Int.reduceNeg, Nat.reduceAdd, Nat.reduceSub, Nat.reduceBEq, Nat.reduceLT, Nat.reduceLeDiff, ↓reduceIte, Bool.false_eq_true, Bool.or_false, Bool.or_true, Bool.false_or, Bool.true_or, decide_true, decide_false, ge_iff_le, gt_iff_lt, dX8_campaign_0, dX8_campaign_1, dX8_campaign_2, dX8_campaign_3, dX8_campaign_5, dX8_campaign_7, dX8_campaign_9, dX8_campaign_11, dX8_campaign_14, dX8_campaign_16, dX8_campaign_17, dX8_campaign_19, dX8_campaign_22, dX8_campaign_23, dX8_campaign_26, dX8_campaign_27, dX8_campaign_30, dX8_campaign_32, dX8_campaign_35, dX8_campaign_36, dX8_campaign_39, dX8_campaign_40, dX8_campaign_43, dX8_campaign_46, dX8_campaign_47, dX8_campaign_48, dX8_campaign_49, dX8_campaign_52, dX8_campaign_53, dX8_campaign_56, dX8_campaign_57, dX8_campaign_58, dX8_campaign_59, dX8_campaign_62, dX8_campaign_63, dX8_campaign_66, dX8_campaign_67, dX8_campaign_68, dX8_campaign_69, dX8_campaign_72, dX8_campaign_73, dX8_campaign_76, dX8_campaign_77, dX8_campaign_78, dX8_campaign_79, dX8_campaign_82, dX8_campaign_83, dX8_campaign_86, dX8_campaign_88, dX8_campaign_89, dX8_campaign_90, dX8_campaign_93, dX8_campaign_94, dX8_campaign_97, dX8_campaign_99, dX8_campaign_100, dX8_campaign_101, dX8_campaign_104, dX8_campaign_105, dX8_campaign_108, dX8_campaign_110, dX8_campaign_111, dX8_campaign_112, dX8_campaign_115, dX8_campaign_116, dX8_campaign_119, dX8_campaign_121, dX8_campaign_122, dX8_campaign_123, dX8_campaign_124, dX8_campaign_127, dX8_campaign_128, dX8_campaign_129, dX8_campaign_132, dX8_campaign_133, dX8_campaign_136, dX8_campaign_137, dX8_campaign_138, uX8_f65, uX8_f68, uX8_f71, uX8_f74, uX8_f77, uX8_f80, uX8_f83, uX8_m152, uX8_m194, uX8_f198, zi_b8, zi_i0, zi_i1, zi_i2, (zmo M), zM_len, ne_eq, ztu_ne, ztu_s, zfc_e, Nat.reduceMul, zM_23, (zmt_23 M), zM_24, (zml_24 M), (zmu_24 M), zM_25, (zml_25 M), (zmu_25 M), zM_26, (zml_26 M), (zmu_26 M), zM_27, (zml_27 M), (zmu_27 M), zM_28, (zml_28 M), (zmu_28 M), zM_29, (zml_29 M), (zmu_29 M), zM_30, (zml_30 M), (zmu_30 M), zb_eq0, h23]
  simp (disch := omega) only [zn_eq]
  refine ⟨fun z => ?_, fun z => ?_⟩
  · rw [if_neg z] at q
    have ok := (zokb_t x1 x2 x3 x4 x5 x6 x7).mp ((Bool.not_eq_false _).mp z)
    refine ⟨fun z2 => ?_, fun z2 => ?_⟩
    · rw [if_neg z2] at q
      obtain ⟨a1, a2, a3, a4, a5, a6, a7⟩ := ok
      obtain ⟨p, p1, rfl, p3⟩ := zx_n (x := x1) (by omega)
      obtain ⟨g, g1', rfl, g3'⟩ := zx_n (x := x2) (by omega)
      obtain ⟨s, s1, rfl, s3⟩ := zx_n (x := x3) (by omega)
      obtain ⟨f, f1, rfl, f3⟩ := zx_n (x := x4) (by omega)
      obtain ⟨t, t1, rfl, t3⟩ := zx_n (x := x5) (by omega)
      obtain ⟨m, m1, rfl, m3⟩ := zx_n (x := x6) (by omega)
      obtain ⟨d, d1, rfl, d3⟩ := zx_n (x := x7) (by omega)
      rw [p3, g3', s3, f3, t3, m3, d3] at q
      simp only [Int.toNat_natCast] at q
      have f0 := zR_f R (nI 0)
      refine hw 60 _ _ _ _ _ _ ?_
      simp only [za_lv_0, za_lv_s, za_isI_i, za_rf_r, za_rf_n, za_rf_v, za_ck_r, za_isC_eq, zs_f, zs_d, zs_iconst, zs_bipush, zs_sipush, zs_lconst, zs_null, zs_iload_n, zs_iload, zs_aload_n, zs_aload, za_iv_i, zs_iinc, zs_istore_n, zs_istore, zs_astore_n, zs_astore, zs_iadd, zs_isub, zs_imul, zs_iand, zs_ior, zs_ixor, zs_ishl, zs_ishr, zs_idiv, zs_i2l, zs_lcmp, zs_dup, zs_dup_x1, zs_dup2, zs_pop, zs_goto, zs_icmp, zs_ifc, zs_nonnull, zs_acmp_eq, zs_acmp_ne, za_sw_s, zs_switch, za_iaload_s, zs_iaload, za_baload_s, zs_baload, za_laload_s, zs_laload, za_aaload_s, zs_aaload, za_iastore_s, zs_iastore, za_bastore_s, zs_bastore, za_lastore_s, zs_lastore, za_aasN_s, zs_aastoreN, za_aas_s, zs_aastore, za_alg_s, za_alg_n, zs_alen, za_gf_s, za_vl_0, za_vl_s, zs_getfield, za_pf_s, zs_putfield, za_nw_s, za_nw_t, za_tx_1, za_tx_2, zs_th, zs_new, zs_newarray, za_cx_s, zs_checkcast, za_vB_s, za_vA_s, za_sX_s, za_sN_s, za_sA_5, za_sA_6, za_sA_1, za_sA_3, za_oB_s, za_iA_2, za_iA_4, zs_invokevirtual, zs_invokestatic, zs_invokespecial, zs_ireturn, zs_return, zs_areturn, zs_areturnA, za_ex0, za_go_eq, za_fit_i, za_fit_b, za_fit_b0, za_fit_b1, za_fit_r, za_fit_n, za_fit_a, za_up_s, za_upup, za_fn_0, za_fn_1, za_fn_2, za_fn_3, za_cd_eq, za_cd_ne, za_cd_lt, za_cd_ge, za_cd_gt, za_cd_le, za_cat_i, za_cat_r, za_cat_n, zb_n0, zb_n1, zb_narrow, zn_narrow, Option.toList_some, Option.toList_none, List.set_cons_zero, List.set_cons_succ, List.length_cons, List.length_nil, List.take_succ_cons, List.take_zero, List.drop_succ_cons, List.drop_zero, List.reverse_cons, List.reverse_nil, List.nil_append, List.cons_append, List.map_cons, List.map_nil, List.replicate_succ, List.replicate_zero, true_and, and_true, true_or, or_true, false_or, or_false, eq_self, not_true_eq_false, not_false_eq_true, false_implies, true_implies, implies_true, and_self, Nat.zero_add, Nat.add_zero, Nat.le_refl, Nat.zero_le, Nat.reduceEqDiff, if_true, if_false, za_t.eq_1, za_t0.eq_1, Int.cast_ofNat_Int, Int.reduceAdd, Int.reduceToNat, Int.reduceLE, Int.reduceNeg, Nat.reduceAdd, Nat.reduceSub, Nat.reduceBEq, Nat.reduceLT, Nat.reduceLeDiff, ↓reduceIte, Bool.false_eq_true, Bool.or_false, Bool.or_true, Bool.false_or, Bool.true_or, decide_true, decide_false, ge_iff_le, gt_iff_lt, dX8_campaign_0, dX8_campaign_1, dX8_campaign_2, dX8_campaign_3, dX8_campaign_5, dX8_campaign_7, dX8_campaign_9, dX8_campaign_11, dX8_campaign_14, dX8_campaign_16, dX8_campaign_17, dX8_campaign_19, dX8_campaign_22, dX8_campaign_23, dX8_campaign_26, dX8_campaign_27, dX8_campaign_30, dX8_campaign_32, dX8_campaign_35, dX8_campaign_36, dX8_campaign_39, dX8_campaign_40, dX8_campaign_43, dX8_campaign_46, dX8_campaign_47, dX8_campaign_48, dX8_campaign_49, dX8_campaign_52, dX8_campaign_53, dX8_campaign_56, dX8_campaign_57, dX8_campaign_58, dX8_campaign_59, dX8_campaign_62, dX8_campaign_63, dX8_campaign_66, dX8_campaign_67, dX8_campaign_68, dX8_campaign_69, dX8_campaign_72, dX8_campaign_73, dX8_campaign_76, dX8_campaign_77, dX8_campaign_78, dX8_campaign_79, dX8_campaign_82, dX8_campaign_83, dX8_campaign_86, dX8_campaign_88, dX8_campaign_89, dX8_campaign_90, dX8_campaign_93, dX8_campaign_94, dX8_campaign_97, dX8_campaign_99, dX8_campaign_100, dX8_campaign_101, dX8_campaign_104, dX8_campaign_105, dX8_campaign_108, dX8_campaign_110, dX8_campaign_111, dX8_campaign_112, dX8_campaign_115, dX8_campaign_116, dX8_campaign_119, dX8_campaign_121, dX8_campaign_122, dX8_campaign_123, dX8_campaign_124, dX8_campaign_127, dX8_campaign_128, dX8_campaign_129, dX8_campaign_132, dX8_campaign_133, dX8_campaign_136, dX8_campaign_137, dX8_campaign_138, uX8_f65, uX8_f68, uX8_f71, uX8_f74, uX8_f77, uX8_f80, uX8_f83, uX8_m152, uX8_m194, uX8_f198, zi_b8, zi_i0, zi_i1, zi_i2, (zmo M), zM_len, ne_eq, ztu_ne, ztu_s, zfc_e, Nat.reduceMul, zM_23, (zmt_23 M), zM_24, (zml_24 M), (zmu_24 M), zM_25, (zml_25 M), (zmu_25 M), zM_26, (zml_26 M), (zmu_26 M), zM_27, (zml_27 M), (zmu_27 M), zM_28, (zml_28 M), (zmu_28 M), zM_29, (zml_29 M), (zmu_29 M), zM_30, (zml_30 M), (zmu_30 M)]
      refine za_call (mc' := 0) (ms' := 0) (by omega) (by omega) (m_isFine F M _ _ (fun y => ?_) (fun y => absurd rfl y))
      generalize ztu T 49 (zfc (nI 0)) = T0 at *
      have h23' := zr_23 f0.1
      have v2 : vp_in (nI (S 13 0 0)) 8 := zn_in (by omega) (by omega)
      have c2 : (nI (S 13 0 0)).toNatClampNeg = S 13 0 0 := zq_c (by omega)
      simp only [za_lv_0, za_lv_s, za_isI_i, za_rf_r, za_rf_n, za_rf_v, za_ck_r, za_isC_eq, zs_f, zs_d, zs_iconst, zs_bipush, zs_sipush, zs_lconst, zs_null, zs_iload_n, zs_iload, zs_aload_n, zs_aload, za_iv_i, zs_iinc, zs_istore_n, zs_istore, zs_astore_n, zs_astore, zs_iadd, zs_isub, zs_imul, zs_iand, zs_ior, zs_ixor, zs_ishl, zs_ishr, zs_idiv, zs_i2l, zs_lcmp, zs_dup, zs_dup_x1, zs_dup2, zs_pop, zs_goto, zs_icmp, zs_ifc, zs_nonnull, zs_acmp_eq, zs_acmp_ne, za_sw_s, zs_switch, za_iaload_s, zs_iaload, za_baload_s, zs_baload, za_laload_s, zs_laload, za_aaload_s, zs_aaload, za_iastore_s, zs_iastore, za_bastore_s, zs_bastore, za_lastore_s, zs_lastore, za_aasN_s, zs_aastoreN, za_aas_s, zs_aastore, za_alg_s, za_alg_n, zs_alen, za_gf_s, za_vl_0, za_vl_s, zs_getfield, za_pf_s, zs_putfield, za_nw_s, za_nw_t, za_tx_1, za_tx_2, zs_th, zs_new, zs_newarray, za_cx_s, zs_checkcast, za_vB_s, za_vA_s, za_sX_s, za_sN_s, za_sA_5, za_sA_6, za_sA_1, za_sA_3, za_oB_s, za_iA_2, za_iA_4, zs_invokevirtual, zs_invokestatic, zs_invokespecial, zs_ireturn, zs_return, zs_areturn, zs_areturnA, za_ex0, za_go_eq, za_fit_i, za_fit_b, za_fit_b0, za_fit_b1, za_fit_r, za_fit_n, za_fit_a, za_up_s, za_upup, za_fn_0, za_fn_1, za_fn_2, za_fn_3, za_cd_eq, za_cd_ne, za_cd_lt, za_cd_ge, za_cd_gt, za_cd_le, za_cat_i, za_cat_r, za_cat_n, zb_n0, zb_n1, zb_narrow, zn_narrow, Option.toList_some, Option.toList_none, List.set_cons_zero, List.set_cons_succ, List.length_cons, List.length_nil, List.take_succ_cons, List.take_zero, List.drop_succ_cons, List.drop_zero, List.reverse_cons, List.reverse_nil, List.nil_append, List.cons_append, List.map_cons, List.map_nil, List.replicate_succ, List.replicate_zero, true_and, and_true, true_or, or_true, false_or, or_false, eq_self, not_true_eq_false, not_false_eq_true, false_implies, true_implies, implies_true, and_self, Nat.zero_add, Nat.add_zero, Nat.le_refl, Nat.zero_le, Nat.reduceEqDiff, if_true, if_false, za_t.eq_1, za_t0.eq_1, Int.cast_ofNat_Int, Int.reduceAdd, Int.reduceToNat, Int.reduceLE, Int.reduceNeg, Nat.reduceAdd, Nat.reduceSub, Nat.reduceBEq, Nat.reduceLT, Nat.reduceLeDiff, ↓reduceIte, Bool.false_eq_true, Bool.or_false, Bool.or_true, Bool.false_or, Bool.true_or, decide_true, decide_false, ge_iff_le, gt_iff_lt, dX8_campaign_0, dX8_campaign_1, dX8_campaign_2, dX8_campaign_3, dX8_campaign_5, dX8_campaign_7, dX8_campaign_9, dX8_campaign_11, dX8_campaign_14, dX8_campaign_16, dX8_campaign_17, dX8_campaign_19, dX8_campaign_22, dX8_campaign_23, dX8_campaign_26, dX8_campaign_27, dX8_campaign_30, dX8_campaign_32, dX8_campaign_35, dX8_campaign_36, dX8_campaign_39, dX8_campaign_40, dX8_campaign_43, dX8_campaign_46, dX8_campaign_47, dX8_campaign_48, dX8_campaign_49, dX8_campaign_52, dX8_campaign_53, dX8_campaign_56, dX8_campaign_57, dX8_campaign_58, dX8_campaign_59, dX8_campaign_62, dX8_campaign_63, dX8_campaign_66, dX8_campaign_67, dX8_campaign_68, dX8_campaign_69, dX8_campaign_72, dX8_campaign_73, dX8_campaign_76, dX8_campaign_77, dX8_campaign_78, dX8_campaign_79, dX8_campaign_82, dX8_campaign_83, dX8_campaign_86, dX8_campaign_88, dX8_campaign_89, dX8_campaign_90, dX8_campaign_93, dX8_campaign_94, dX8_campaign_97, dX8_campaign_99, dX8_campaign_100, dX8_campaign_101, dX8_campaign_104, dX8_campaign_105, dX8_campaign_108, dX8_campaign_110, dX8_campaign_111, dX8_campaign_112, dX8_campaign_115, dX8_campaign_116, dX8_campaign_119, dX8_campaign_121, dX8_campaign_122, dX8_campaign_123, dX8_campaign_124, dX8_campaign_127, dX8_campaign_128, dX8_campaign_129, dX8_campaign_132, dX8_campaign_133, dX8_campaign_136, dX8_campaign_137, dX8_campaign_138, uX8_f65, uX8_f68, uX8_f71, uX8_f74, uX8_f77, uX8_f80, uX8_f83, uX8_m152, uX8_m194, uX8_f198, zi_b8, zi_i0, zi_i1, zi_i2, (zmo M), zM_len, ne_eq, ztu_ne, ztu_s, zfc_e, Nat.reduceMul, zM_23, (zmt_23 M), zM_24, (zml_24 M), (zmu_24 M), zM_25, (zml_25 M), (zmu_25 M), zM_26, (zml_26 M), (zmu_26 M), zM_27, (zml_27 M), (zmu_27 M), zM_28, (zml_28 M), (zmu_28 M), zM_29, (zml_29 M), (zmu_29 M), zM_30, (zml_30 M), (zmu_30 M), v2, c2, h23', nI_add]
      refine ⟨fun _ => ?_, fun z => absurd (by decide) z⟩
      rw [pk_sub (by omega), Nat.add_sub_cancel]
      exact q (zmca T0 (S 13 0 0) (nI p) (nI g) (nI s) (nI f) (nI t) (nI m) (nI d)) (zR_camp f0.1 (by omega)) (by unfold zmca; simp [ztu]; exact f0.2)
    · rw [if_pos (Decidable.not_not.mp z2)] at q
      exact bad _ 2 (by omega) (by omega) q
  · rw [if_pos (Decidable.not_not.mp z)] at q
    exact bad _ 1 (by omega) (by omega) q
end ZRL
