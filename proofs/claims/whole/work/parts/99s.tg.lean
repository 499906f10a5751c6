/-! THE LAW (18): the beginning -/
section ZTG
variable {G : za_G}
/-- the script alone -/
def zh0 (b n : Nat) (f : Nat → Int32) : za_H := za_up (fun _ => none) b (.inl (.int, n, .inl f))
def zT1 (f : Nat → Int32) : zT := (fun k => if k = 91 then f else fun _ => nI 0, fun _ => 0)
def zl6 (l0 l1 l2 l3 l4 l5 : Nat) : Nat → Nat := fun k => if k = 0 then l0 else if k = 1 then l1 else if k = 2 then l2 else if k = 3 then l3 else if k = 4 then l4 else l5
def zfm (k : Nat) : Value := if zms k = true then .int (nI 0) else .null
theorem zT1_k {f : Nat → Int32} {k : Nat} (h : k < 50) : (zT1 f).1 k = fun _ => nI 0 := if_neg (by omega)
theorem zar_1 {f : Nat → Int32} {k : Nat} (h : k < 50) : zar (zT1 f) k = zar zT0 k := by
  unfold zar
  rw [zT1_k h]
  rfl
theorem zl_perm (a l0 l1 l2 l3 l4 l5 m o b : Nat) (R : List Nat) : ([a, l0, l1, l2, l3, l4, l5, m, o, b] ++ R).Perm (o :: (R ++ m :: ([l5, l4, l3, l2, l1, l0] ++ [a, b]))) := by
  rw [List.perm_iff_count]
  intro x
  simp only [List.count_append, List.count_cons, List.count_nil, List.cons_append, List.nil_append]
  ac_rfl
/-- what stands when the three are made -/
theorem zstart_1 {b n : Nat} {f : Nat → Int32} {a m o l0 l1 l2 l3 l4 l5 : Nat} {h1 h2 : za_H} {e1 e2 : za_E} {ρ : Nat → Nat} (hb : b ≠ G.t) (hna : za_nn G (zh0 b n f) a)
    (f1 : h1 a = some (.inr (8, [.ref l0, .ref l1, .ref l2, .ref l3, .ref l4, .ref l5, .int (nI 0), .int (nI 0), .int (nI 0), .int (nI 0)])))
    (N1 : zi_N G (za_up (zh0 b n f) a e1) h1 a [(l5, ze_L G), (l4, ze_L G), (l3, ze_L G), (l2, ze_L G), (l1, ze_L G), (l0, ze_L G)])
    (hnm : za_nn G h1 m) (N2 : zi_N G (za_up h1 m e2) h2 m ((zrk 50).map (fun k => (ρ k, zar zT0 k))))
    (f2 : h2 m = some (.inr (9, (List.range 50).map (fun k => if k < 50 ∧ zms k = false then .ref (ρ k) else zfm k)))) (hno : za_nn G h2 o) :
    ∃ A B T r0, za_up h2 o (.inl (.long, 1, .inr (.inl (fun _ => 0)))) = zmk A B zS0 T r0 ∧ zLI G A B zS0 T r0 n f ∧ A.1 (91, 0, 0) = b ∧ A.1 (0, 0, 0) = a ∧ A.1 (30, 0, 0) = m ∧ A.1 (90, 0, 0) = o := by
  have hab : a ≠ b := fun z => by
    have := hna.1
    rw [z] at this
    unfold zh0 at this
    rw [za_up_s] at this
    cases this
  obtain ⟨n1, n2, n3⟩ := N1
  obtain ⟨m1, m2, m3⟩ := N2
  have M1 : ((([(l5, ze_L G), (l4, ze_L G), (l3, ze_L G), (l2, ze_L G), (l1, ze_L G), (l0, ze_L G)] : List (Nat × za_E))).map (fun p => p.1)) = [l5, l4, l3, l2, l1, l0] := rfl
  have M2 : (((zrk 50).map (fun k => (ρ k, zar zT0 k))).map (fun p => p.1)) = (zrk 50).map ρ := by rw [List.map_map]; rfl
  rw [M1] at n1 n3
  rw [M2] at m1 m3
  have hbl : b ∉ [l5, l4, l3, l2, l1, l0] := fun y => by
    rw [← M1] at y
    obtain ⟨p, p1, p2⟩ := List.mem_map.mp y
    have := (n2 p p1).2.2.1
    rw [p2, za_up_n _ _ (Ne.symm hab)] at this
    unfold zh0 at this
    rw [za_up_s] at this
    cases this
  have hal : a ∉ [l5, l4, l3, l2, l1, l0] := fun y => by
    rw [← M1] at y
    obtain ⟨p, p1, p2⟩ := List.mem_map.mp y
    exact (n2 p p1).1 p2
  have b1 : h1 b = some (.inl (.int, n, .inl f)) := by
    rw [n3 b (Ne.symm hab) hbl, za_up_n _ _ (Ne.symm hab)]
    exact za_up_s _ _ _
  have L1 : ∀ x, x ∈ [l5, l4, l3, l2, l1, l0] → h1 x = some (ze_L G) ∧ x ≠ G.t := fun x hx => by
    have hx2 := hx
    rw [← M1] at hx2
    obtain ⟨p, p1, p2⟩ := List.mem_map.mp hx2
    obtain ⟨q1, q2, q3, q4⟩ := n2 p p1
    have e : p.2 = ze_L G := by
      simp only [List.mem_cons, List.not_mem_nil, or_false] at p1
      rcases p1 with y | y | y | y | y | y <;> rw [y]
    rw [← p2]
    exact ⟨by rw [q4, e], q2⟩
  have t1 : h1 G.t = none := by
    rw [n3 _ (Ne.symm hna.2) (fun y => (L1 _ y).2 rfl), za_up_n _ _ (Ne.symm hna.2)]
    unfold zh0
    rw [za_up_n _ _ (Ne.symm hb)]
  have nm : ∀ x e, h1 x = some e → x ≠ m := fun x e h z => by rw [z, hnm.1] at h; cases h
  have nr : ∀ x e, h1 x = some e → x ∉ (zrk 50).map ρ := fun x e h y => by
    rw [← M2] at y
    obtain ⟨p, p1, p2⟩ := List.mem_map.mp y
    have := (m2 p p1).2.2.1
    rw [p2, za_up_n _ _ (nm x e h), h] at this
    cases this
  have k2 : ∀ x e, h1 x = some e → h2 x = some e := fun x e h => by
    rw [m3 x (nm x e h) (nr x e h), za_up_n _ _ (nm x e h)]
    exact h
  have r2 : ∀ k, k ∈ zrk 50 → h2 (ρ k) = some (zar zT0 k) ∧ ρ k ≠ m ∧ ρ k ≠ G.t := fun k hk => by
    obtain ⟨q1, q2, q3, q4⟩ := m2 (ρ k, zar zT0 k) (List.mem_map.mpr ⟨k, hk, rfl⟩)
    exact ⟨q4, q1, q2⟩
  have t2 : h2 G.t = none := by
    rw [m3 _ (Ne.symm hnm.2) (fun y => by
      obtain ⟨k, k1, k2⟩ := List.mem_map.mp y
      exact (r2 k k1).2.2 k2), za_up_n _ _ (Ne.symm hnm.2)]
    exact t1
  have no : ∀ x e, h2 x = some e → x ≠ o := fun x e h z => by rw [z, hno.1] at h; cases h
  have k3 : ∀ x e, h2 x = some e → za_up h2 o (.inl (.long, 1, .inr (.inl (fun _ => 0)))) x = some e := fun x e h => by
    rw [za_up_n _ _ (no x e h)]
    exact h
  have hnd : ([a, l0, l1, l2, l3, l4, l5, m, o, b] ++ (zrk 50).map ρ).Nodup := by
    rw [(zl_perm a l0 l1 l2 l3 l4 l5 m o b _).nodup_iff]
    have g1 : ∀ x, x ∈ [l5, l4, l3, l2, l1, l0] ++ [a, b] → ∃ e, h1 x = some e := fun x hx => by
      rcases List.mem_append.mp hx with y | y
      · exact ⟨_, (L1 x y).1⟩
      · simp only [List.mem_cons, List.not_mem_nil, or_false] at y
        rcases y with y | y
        · rw [y]; exact ⟨_, f1⟩
        · rw [y]; exact ⟨_, b1⟩
    have g2 : ∀ x, x ∈ m :: ([l5, l4, l3, l2, l1, l0] ++ [a, b]) → ∃ e, h2 x = some e := fun x hx => by
      rcases List.mem_cons.mp hx with y | y
      · rw [y]; exact ⟨_, f2⟩
      · obtain ⟨e, he⟩ := g1 x y
        exact ⟨e, k2 x e he⟩
    have c1 : ([l5, l4, l3, l2, l1, l0] ++ [a, b]).Nodup := List.nodup_append.mpr ⟨n1, List.nodup_cons.mpr ⟨fun y => hab (List.mem_singleton.mp y), List.nodup_cons.mpr ⟨List.not_mem_nil, List.nodup_nil⟩⟩, fun x hx y hy z => by
      subst z
      simp only [List.mem_cons, List.not_mem_nil, or_false] at hy
      rcases hy with y | y
      · exact hal (by rw [← y]; exact hx)
      · exact hbl (by rw [← y]; exact hx)⟩
    have c2 : (m :: ([l5, l4, l3, l2, l1, l0] ++ [a, b])).Nodup := List.nodup_cons.mpr ⟨fun y => by
      obtain ⟨e, he⟩ := g1 m y
      exact nm m e he rfl, c1⟩
    have c3 : ((zrk 50).map ρ ++ m :: ([l5, l4, l3, l2, l1, l0] ++ [a, b])).Nodup := List.nodup_append.mpr ⟨m1, c2, fun x hx y hy z => by
      subst z
      rcases List.mem_cons.mp hy with y | y
      · obtain ⟨k, k1, k2⟩ := List.mem_map.mp hx
        exact (r2 k k1).2.1 (k2.trans y)
      · obtain ⟨e, he⟩ := g1 x y
        exact nr x e he hx⟩
    refine List.nodup_cons.mpr ⟨fun y => ?_, c3⟩
    rcases List.mem_append.mp y with y | y
    · obtain ⟨k, k1, k2⟩ := List.mem_map.mp y
      exact no (ρ k) _ (r2 k k1).1 k2
    · obtain ⟨e, he⟩ := g2 o y
      exact no o e he rfl
  have hh : ∀ p ∈ zl0 a m o b (zl6 l0 l1 l2 l3 l4 l5) ρ, za_up h2 o (.inl (.long, 1, .inr (.inl (fun _ => 0)))) p.2 = some (zcon (zB0 G.t (zl6 l0 l1 l2 l3 l4 l5) ρ n) zS0 (zT1 f) p.1) := by
    intro p hp
    rcases List.mem_append.mp hp with y | y
    · simp only [List.mem_cons, List.not_mem_nil, or_false] at y
      rcases y with y | y | y | y | y | y | y | y | y | y <;> rw [y]
      · exact k3 a _ (k2 a _ f1)
      · exact k3 l0 _ (k2 l0 _ (L1 l0 (by simp)).1)
      · exact k3 l1 _ (k2 l1 _ (L1 l1 (by simp)).1)
      · exact k3 l2 _ (k2 l2 _ (L1 l2 (by simp)).1)
      · exact k3 l3 _ (k2 l3 _ (L1 l3 (by simp)).1)
      · exact k3 l4 _ (k2 l4 _ (L1 l4 (by simp)).1)
      · exact k3 l5 _ (k2 l5 _ (L1 l5 (by simp)).1)
      · refine (k3 m _ f2).trans ?_
        rw [zc_30]
        have e : (List.range 50).map (fun k => if k < 50 ∧ zms k = false then Value.ref (ρ k) else zfm k) = zMf (zB0 G.t (zl6 l0 l1 l2 l3 l4 l5) ρ n) (zT1 f) := by
          unfold zMf
          refine List.map_congr_left (fun k hk => ?_)
          have hk := List.mem_range.mp hk
          unfold zmv zfm
          rw [zT1_k hk]
          cases hz : zms k with
          | true => rw [if_neg (fun y => by cases y.2), if_pos rfl, if_pos rfl]
          | false => rw [if_pos ⟨hk, rfl⟩, if_neg (fun y => by cases y)]; rfl
        rw [e]
      · exact za_up_s _ _ _
      · exact k3 b _ (k2 b _ b1)
    · obtain ⟨k, k1, k2'⟩ := List.mem_map.mp y
      rw [← k2']
      refine (k3 (ρ k) _ (r2 k k1).1).trans ?_
      show some (zar zT0 k) = some (zar (zT1 f) k)
      rw [zar_1 (zrk_m.mp k1).1]
  have t3 : za_up h2 o (.inl (.long, 1, .inr (.inl (fun _ => 0)))) G.t = none := by
    rw [za_up_n _ _ (Ne.symm hno.2)]
    exact t2
  obtain ⟨A, r0, e, I, M, ⟨v90, a90⟩, ⟨v91, a91⟩, a0, a30⟩ := zI_init (G := G) (T := zT1 f) (n := n) t3 (l := zl6 l0 l1 l2 l3 l4 l5) (ρ := ρ) hnd hh
  exact ⟨A, _, zT1 f, r0, e, ⟨I, M, zR_0 (fun k hk => zT1_k hk), zinv_0, v90, v91, rfl, rfl⟩, a91, a0, a30, a90⟩
set_option maxRecDepth 8192 in
theorem o_start {w : za_N} {mc ms : Nat} {K : za_O → za_H → Prop} (F : za_F G) (hw : ∀ m pc ls st h c s, za_f G cL_law (some .boolean) [] [] false 11 lkL mc ms K (fun p => p == 23 || p == 1889) w m pc ls st h c s → w pc ls st h c s) {b n : Nat} {f : Nat → Int32} (hb : b ≠ G.t) (hc : 60 ≤ mc) (hs : 608100 ≤ ms)
    (nx : ∀ A B T r0 c s u v, c ≤ 60 → s ≤ 608100 → zLI G A B zS0 T r0 n f → A.1 (91, 0, 0) = b → w 23 [some (.ref (A.1 (91, 0, 0))), some (.ref (A.1 (0, 0, 0))), some (.ref (A.1 (30, 0, 0))), some (.ref (A.1 (90, 0, 0))), some (.int (nI 0)), u, v] [] (zmk A B zS0 T r0) c s) :
    w 0 [some (.ref b), none, none, none, none, none, none] [] (zh0 b n f) 0 0 := by
  refine hw 60 _ _ _ _ _ _ ?_
  simp only [za_lv_0, za_lv_s, za_isI_i, za_rf_r, za_rf_n, za_rf_v, za_ck_r, za_isC_eq, zs_f, zs_d, zs_iconst, zs_bipush, zs_sipush, zs_lconst, zs_null, zs_iload_n, zs_iload, zs_aload_n, zs_aload, za_iv_i, zs_iinc, zs_istore_n, zs_istore, zs_astore_n, zs_astore, zs_iadd, zs_isub, zs_imul, zs_iand, zs_ior, zs_ixor, zs_ishl, zs_ishr, zs_idiv, zs_i2l, zs_lcmp, zs_dup, zs_dup_x1, zs_dup2, zs_pop, zs_goto, zs_icmp, zs_ifc, zs_nonnull, zs_acmp_eq, zs_acmp_ne, za_sw_s, zs_switch, za_iaload_s, zs_iaload, za_baload_s, zs_baload, za_laload_s, zs_laload, za_aaload_s, zs_aaload, za_iastore_s, zs_iastore, za_bastore_s, zs_bastore, za_lastore_s, zs_lastore, za_aasN_s, zs_aastoreN, za_aas_s, zs_aastore, za_alg_s, za_alg_n, zs_alen, za_gf_s, za_vl_0, za_vl_s, zs_getfield, za_pf_s, zs_putfield, za_nw_s, za_nw_t, za_tx_1, za_tx_2, zs_th, zs_new, zs_newarray, za_cx_s, zs_checkcast, za_vB_s, za_vA_s, za_sX_s, za_sN_s, za_sA_5, za_sA_6, za_sA_1, za_sA_3, za_oB_s, za_iA_2, za_iA_4, zs_invokevirtual, zs_invokestatic, zs_invokespecial, zs_ireturn, zs_return, zs_areturn, zs_areturnA, za_ex0, za_go_eq, za_fit_i, za_fit_b, za_fit_b0, za_fit_b1, za_fit_r, za_fit_n, za_fit_a, za_up_s, za_upup, za_fn_0, za_fn_1, za_fn_2, za_fn_3, za_cd_eq, za_cd_ne, za_cd_lt, za_cd_ge, za_cd_gt, za_cd_le, za_cat_i, za_cat_r, za_cat_n, zb_n0, zb_n1, zb_narrow, zn_narrow, Option.toList_some, Option.toList_none, List.set_cons_zero, List.set_cons_succ, List.length_cons, List.length_nil, List.take_succ_cons, List.take_zero, List.drop_succ_cons, List.drop_zero, List.reverse_cons, List.reverse_nil, List.nil_append, List.cons_append, List.map_cons, List.map_nil, List.replicate_succ, List.replicate_zero, true_and, and_true, true_or, or_true, false_or, or_false, eq_self, not_true_eq_false, not_false_eq_true, false_implies, true_implies, implies_true, and_self, Nat.zero_add, Nat.add_zero, Nat.le_refl, Nat.zero_le, Nat.reduceEqDiff, if_true, if_false, za_t.eq_1, za_t0.eq_1, Int.cast_ofNat_Int, Int.reduceAdd, Int.reduceToNat, Int.reduceLE, Int.reduceNeg, Nat.reduceAdd, Nat.reduceSub, Nat.reduceBEq, Nat.reduceLT, Nat.reduceLeDiff, ↓reduceIte, Bool.false_eq_true, Bool.or_false, Bool.or_true, Bool.false_or, Bool.true_or, decide_true, decide_false, ge_iff_le, gt_iff_lt, dL_law_0, dL_law_3, dL_law_4, dL_law_7, dL_law_8, dL_law_11, dL_law_12, dL_law_15, dL_law_16, dL_law_17, dL_law_19, dL_law_20, dL_law_21, uL_n8, uL_m97, uL_n98, uL_m100, zi_i0, zi_i1]
  refine ⟨by omega, by omega, ?_⟩
  intro a hna
  refine za_call (mc' := 6) (ms' := 18) (by omega) (by omega) (m_TowerI F (za_up_s _ _ _) _ ?_)
  intro h1 l0 l1 l2 l3 l4 l5 f1 N1
  simp only [za_lv_0, za_lv_s, za_isI_i, za_rf_r, za_rf_n, za_rf_v, za_ck_r, za_isC_eq, zs_f, zs_d, zs_iconst, zs_bipush, zs_sipush, zs_lconst, zs_null, zs_iload_n, zs_iload, zs_aload_n, zs_aload, za_iv_i, zs_iinc, zs_istore_n, zs_istore, zs_astore_n, zs_astore, zs_iadd, zs_isub, zs_imul, zs_iand, zs_ior, zs_ixor, zs_ishl, zs_ishr, zs_idiv, zs_i2l, zs_lcmp, zs_dup, zs_dup_x1, zs_dup2, zs_pop, zs_goto, zs_icmp, zs_ifc, zs_nonnull, zs_acmp_eq, zs_acmp_ne, za_sw_s, zs_switch, za_iaload_s, zs_iaload, za_baload_s, zs_baload, za_laload_s, zs_laload, za_aaload_s, zs_aaload, za_iastore_s, zs_iastore, za_bastore_s, zs_bastore, za_lastore_s, zs_lastore, za_aasN_s, zs_aastoreN, za_aas_s, zs_aastore, za_alg_s, za_alg_n, zs_alen, za_gf_s, za_vl_0, za_vl_s, zs_getfield, za_pf_s, zs_putfield, za_nw_s, za_nw_t, za_tx_1, za_tx_2, zs_th, zs_new, zs_newarray, za_cx_s, zs_checkcast, za_vB_s, za_vA_s, za_sX_s, za_sN_s, za_sA_5, za_sA_6, za_sA_1, za_sA_3, za_oB_s, za_iA_2, za_iA_4, zs_invokevirtual, zs_invokestatic, zs_invokespecial, zs_ireturn, zs_return, zs_areturn, zs_areturnA, za_ex0, za_go_eq, za_fit_i, za_fit_b, za_fit_b0, za_fit_b1, za_fit_r, za_fit_n, za_fit_a, za_up_s, za_upup, za_fn_0, za_fn_1, za_fn_2, za_fn_3, za_cd_eq, za_cd_ne, za_cd_lt, za_cd_ge, za_cd_gt, za_cd_le, za_cat_i, za_cat_r, za_cat_n, zb_n0, zb_n1, zb_narrow, zn_narrow, Option.toList_some, Option.toList_none, List.set_cons_zero, List.set_cons_succ, List.length_cons, List.length_nil, List.take_succ_cons, List.take_zero, List.drop_succ_cons, List.drop_zero, List.reverse_cons, List.reverse_nil, List.nil_append, List.cons_append, List.map_cons, List.map_nil, List.replicate_succ, List.replicate_zero, true_and, and_true, true_or, or_true, false_or, or_false, eq_self, not_true_eq_false, not_false_eq_true, false_implies, true_implies, implies_true, and_self, Nat.zero_add, Nat.add_zero, Nat.le_refl, Nat.zero_le, Nat.reduceEqDiff, if_true, if_false, za_t.eq_1, za_t0.eq_1, Int.cast_ofNat_Int, Int.reduceAdd, Int.reduceToNat, Int.reduceLE, Int.reduceNeg, Nat.reduceAdd, Nat.reduceSub, Nat.reduceBEq, Nat.reduceLT, Nat.reduceLeDiff, ↓reduceIte, Bool.false_eq_true, Bool.or_false, Bool.or_true, Bool.false_or, Bool.true_or, decide_true, decide_false, ge_iff_le, gt_iff_lt, dL_law_0, dL_law_3, dL_law_4, dL_law_7, dL_law_8, dL_law_11, dL_law_12, dL_law_15, dL_law_16, dL_law_17, dL_law_19, dL_law_20, dL_law_21, uL_n8, uL_m97, uL_n98, uL_m100, zi_i0, zi_i1]
  refine ⟨by omega, by omega, ?_⟩
  intro m hnm
  refine za_call (mc' := 41) (ms' := 608000) (by omega) (by omega) (m_ModelI F (f := zfm) (za_up_s _ _ _) _ ?_)
  intro h2 N2
  obtain ⟨ρ, N2, f2⟩ := N2
  simp only [za_lv_0, za_lv_s, za_isI_i, za_rf_r, za_rf_n, za_rf_v, za_ck_r, za_isC_eq, zs_f, zs_d, zs_iconst, zs_bipush, zs_sipush, zs_lconst, zs_null, zs_iload_n, zs_iload, zs_aload_n, zs_aload, za_iv_i, zs_iinc, zs_istore_n, zs_istore, zs_astore_n, zs_astore, zs_iadd, zs_isub, zs_imul, zs_iand, zs_ior, zs_ixor, zs_ishl, zs_ishr, zs_idiv, zs_i2l, zs_lcmp, zs_dup, zs_dup_x1, zs_dup2, zs_pop, zs_goto, zs_icmp, zs_ifc, zs_nonnull, zs_acmp_eq, zs_acmp_ne, za_sw_s, zs_switch, za_iaload_s, zs_iaload, za_baload_s, zs_baload, za_laload_s, zs_laload, za_aaload_s, zs_aaload, za_iastore_s, zs_iastore, za_bastore_s, zs_bastore, za_lastore_s, zs_lastore, za_aasN_s, zs_aastoreN, za_aas_s, zs_aastore, za_alg_s, za_alg_n, zs_alen, za_gf_s, za_vl_0, za_vl_s, zs_getfield, za_pf_s, zs_putfield, za_nw_s, za_nw_t, za_tx_1, za_tx_2, zs_th, zs_new, zs_newarray, za_cx_s, zs_checkcast, za_vB_s, za_vA_s, za_sX_s, za_sN_s, za_sA_5, za_sA_6, za_sA_1, za_sA_3, za_oB_s, za_iA_2, za_iA_4, zs_invokevirtual, zs_invokestatic, zs_invokespecial, zs_ireturn, zs_return, zs_areturn, zs_areturnA, za_ex0, za_go_eq, za_fit_i, za_fit_b, za_fit_b0, za_fit_b1, za_fit_r, za_fit_n, za_fit_a, za_up_s, za_upup, za_fn_0, za_fn_1, za_fn_2, za_fn_3, za_cd_eq, za_cd_ne, za_cd_lt, za_cd_ge, za_cd_gt, za_cd_le, za_cat_i, za_cat_r, za_cat_n, zb_n0, zb_n1, zb_narrow, zn_narrow, Option.toList_some, Option.toList_none, List.set_cons_zero, List.set_cons_succ, List.length_cons, List.length_nil, List.take_succ_cons, List.take_zero, List.drop_succ_cons, List.drop_zero, List.reverse_cons, List.reverse_nil, List.nil_append, List.cons_append, List.map_cons, List.map_nil, List.replicate_succ, List.replicate_zero, true_and, and_true, true_or, or_true, false_or, or_false, eq_self, not_true_eq_false, not_false_eq_true, false_implies, true_implies, implies_true, and_self, Nat.zero_add, Nat.add_zero, Nat.le_refl, Nat.zero_le, Nat.reduceEqDiff, if_true, if_false, za_t.eq_1, za_t0.eq_1, Int.cast_ofNat_Int, Int.reduceAdd, Int.reduceToNat, Int.reduceLE, Int.reduceNeg, Nat.reduceAdd, Nat.reduceSub, Nat.reduceBEq, Nat.reduceLT, Nat.reduceLeDiff, ↓reduceIte, Bool.false_eq_true, Bool.or_false, Bool.or_true, Bool.false_or, Bool.true_or, decide_true, decide_false, ge_iff_le, gt_iff_lt, dL_law_0, dL_law_3, dL_law_4, dL_law_7, dL_law_8, dL_law_11, dL_law_12, dL_law_15, dL_law_16, dL_law_17, dL_law_19, dL_law_20, dL_law_21, uL_n8, uL_m97, uL_n98, uL_m100, zi_i0, zi_i1, (show (nI 1).toNatClampNeg = 1 from rfl)]
  refine ⟨by decide +kernel, by omega, by omega, ?_⟩
  intro o hno
  obtain ⟨A, B, T, r0, e, L, a91, a0, a30, a90⟩ := zstart_1 hb hna f1 N1 hnm N2 f2 hno
  show w 23 _ _ (za_up h2 o (.inl (.long, 1, .inr (.inl (fun _ => 0))))) _ _
  rw [e]
  have N := nx A B T r0 50 608079 none none (by omega) (by omega) L a91
  rw [a91, a0, a30, a90] at N
  exact N
end ZTG
