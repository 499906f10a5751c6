/-! THE CLASS (33): addPiece -/
/-- a piece more in the row of d -/
def zpn (S : zS) (d j a b c : Nat) : zS := zup (zup (zup (zup (zup S 55 d (S 17 d 0) j) 56 d (S 17 d 0) a) 57 d (S 17 d 0) b) 58 d (S 17 d 0) c) 17 d 0 (S 17 d 0 + 1)
theorem zpn_o (S : zS) (d j a b c : Nat) {f : Nat} (h1 : f ≠ 55) (h2 : f ≠ 56) (h3 : f ≠ 57) (h4 : f ≠ 58) (h5 : f ≠ 17) : zpn S d j a b c f = S f := by
  unfold zpn
  rw [zup_o _ h5, zup_o _ h4, zup_o _ h3, zup_o _ h2, zup_o _ h1]
def zpiece (S : zS) (d j len c : Nat) : zS := zup (zpn S d j (S 51 d 0) (S 51 d 0 + len) c) 51 d 0 (S 51 d 0 + len)
section ZDG
variable {G : za_G} {A : zA} {B : zB} {S : zS} {T : zT} {r0 : za_H}
theorem p_piece (F : za_F G) (I : zI G A B S r0) {d i j a b c v : Nat} (hd : d < S 19 0 0) (h49 : S 49 d 0 = i) (hij : zLv S 1 i j) (hn : S 17 d 0 ≤ 1000) (hv : A.2 v = none) (hvt : v ≠ G.t) (h0 : r0 v = some (.inr (6, [.ref (A.1 (1, i, j)), .int (nI j), .int (nI a), .int (nI b), .int (z1 c)]))) (K : za_O → za_H → Prop)
    (q : ∀ A' B' r0', zX A B A' B' → zI G A' B' (zpn S d j a b c) r0' → (∀ r, r ≠ (6, d, S 17 d 0) → r ≠ (17, d, 1) → A'.1 r = A.1 r) → K (.inl (some (.int (nI 1)))) (zmk A' B' (zpn S d j a b c) T r0')) : za_P G mJx4a65c_add_9ea2d [.ref (A.1 (17, d, 0)), .ref v] (zmk A B S T r0) 1 (zcost B S 17 d) K := by
  have J := I.1
  have hl := J.l (k := 17) (i := d) hd
  have hvp := J.v (k := 1) hij (by omega) (by omega)
  generalize hn12 : S 17 d 0 = n at *
  generalize hB2 : zbu B 6 d n (A.1 (1, i, j)) = B2
  have hS' : zpn S d j a b c = zup (zup (zup (zup (zup S 55 d n j) 56 d n a) 57 d n b) 58 d n c) 17 d 0 (n + 1) := by unfold zpn; rw [hn12]
  have hcon : ∀ r, r ≠ ((17, d, 0) : zQ) → zcon B2 (zpn S d j a b c) T r = zcon B2 (zup (zup (zup (zup S 55 d n j) 56 d n a) 57 d n b) 58 d n c) T r := fun r h => by rw [hS', zcon_zup (by exact h)]
  have s17 : zpn S d j a b c 17 d 0 = n + 1 := by rw [hS']; exact zup_s _ _ _ _ _
  have s17' : ∀ x, x ≠ d → zpn S d j a b c 17 x 0 = S 17 x 0 := fun x h => by
    rw [hS', zup_n _ (fun z => h z.2.1), zup_o _ (by omega), zup_o _ (by omega), zup_o _ (by omega), zup_o _ (by omega)]
  have s55 : zpn S d j a b c 55 d n = j := by rw [hS', zup_o _ (by omega), zup_o _ (by omega), zup_o _ (by omega), zup_o _ (by omega), zup_s]
  have s55' : ∀ x y, ¬ (x = d ∧ y = n) → zpn S d j a b c 55 x y = S 55 x y := fun x y h => by
    rw [hS', zup_o _ (by omega), zup_o _ (by omega), zup_o _ (by omega), zup_o _ (by omega), zup_n _ (fun z => h z.2)]
  have so : ∀ f, f ≠ 55 → f ≠ 56 → f ≠ 57 → f ≠ 58 → f ≠ 17 → zpn S d j a b c f = S f := fun f => zpn_o S d j a b c
  have hS2 : ∀ r, r ≠ ((6, d, n) : zQ) → zcon B2 (zup (zup (zup (zup S 55 d n j) 56 d n a) 57 d n b) 58 d n c) T r = zcon B S T r := fun r h => by
    rw [← hB2, zcon_bu (by omega) (by exact h), zcon_zup (by exact h), zcon_zup (by exact h), zcon_zup (by exact h), zcon_zup (by exact h)]
  rw [zmk_ad (r := (6, d, n)) (B' := B2) (S' := zup (zup (zup (zup S 55 d n j) 56 d n a) 57 d n b) 58 d n c) (T' := T) hv (by
    rw [h0, zc_6, zup_s, ← hB2, zbu_s, zup_n _ (by omega), zup_n _ (by omega), zup_n _ (by omega), zup_s, zup_n _ (by omega), zup_n _ (by omega), zup_s, zup_n _ (by omega), zup_s]) hS2]
  have V2 := zad_V A (6, d, n) v
  have a2 : (zad A (6, d, n) v).1 (6, d, n) = v := zad_s _ _ _
  have o2 : ∀ r', r' ≠ (6, d, n) → (zad A (6, d, n) v).1 r' = A.1 r' ∧ (zV (zad A (6, d, n) v) r' ↔ zV A r') := fun r' h => ⟨zad_n _ _ h, zad_Vn hv h⟩
  have f2 := zad_F J.f (6, d, n) v
  have n2 : zN G (zad A (6, d, n) v) (zr0 A (6, d, n) (zcon B S T (6, d, n)) r0) := ⟨zad_no J.n.1 hvt.symm, by rw [zr0_no J.n.1]; exact J.n.2⟩
  generalize zad A (6, d, n) v = A2 at *
  generalize zr0 A (6, d, n) (zcon B S T (6, d, n)) r0 = r2 at *
  generalize hS3 : zup (zup (zup (zup S 55 d n j) 56 d n a) 57 d n b) 58 d n c = S3 at *
  have hS12 : ∀ x, S3 17 x 0 = S 17 x 0 := fun x => by rw [← hS3, zup_o _ (by omega), zup_o _ (by omega), zup_o _ (by omega), zup_o _ (by omega)]
  have w2 : ∀ f', f' ≠ 6 → B2.1 f' = B.1 f' := fun f' h => by rw [← hB2]; exact zbu_o _ h
  have w22 : B2.2 = B.2 := by rw [← hB2]; rfl
  have hL12 : zL G.t A2 B2 S3 17 d := by
    refine zL_fr hl (by rw [w2 7 (by omega)]) (by rw [w2 8 (by omega)]) (by rw [w22]) (hS12 d) (fun j _ => rfl) ⟨(o2 _ (fun y => by cases y)).1, (o2 _ (fun y => by cases y)).2.mpr⟩ ⟨(o2 _ (fun y => by cases y)).1, (o2 _ (fun y => by cases y)).2.mpr⟩ (fun k hk hz => ?_)
    rw [hn12] at hk
    have hne : zel S 17 d k ≠ ((6, d, n) : zQ) := fun y => by
      have : k = n := congrArg (fun r : zQ => r.2.2) y
      omega
    exact ⟨(o2 _ hne).1, (o2 _ hne).2.mpr hz⟩
  have ec : zcost B2 S3 17 d = zcost B S 17 d := by unfold zcost; rw [hS12, w2 8 (by omega)]
  rw [show [Value.ref (A.1 (17, d, 0)), Value.ref v] = [Value.ref (A2.1 (17, d, 0)), Value.ref (A2.1 (6, d, n))] by rw [(o2 (17, d, 0) (fun y => by cases y)).1, a2], ← ec]
  refine l_add (r := (6, d, n)) (S' := zpn S d j a b c) F f2 n2 (by omega) hL12 V2 (zc_6 _ _ T d n) (by rw [s17, hS12, hn12]) (by rw [hS12, hn12]; rfl) (fun j hj => rfl) (fun r' h0 h1 => hcon r' h0) (by rw [hS12, hn12]; exact hn) K ?_
  intro A' B' r0' hf' hN' hL' hA' hB'
  obtain ⟨b', cap', f', m', rfl, hcap'⟩ := hB'
  have ga : ∀ r, r ≠ ((6, d, n) : zQ) → r ≠ (17, d, 1) → A'.1 r = A.1 r := fun r h1 h4 => (hA' r h4).1.trans (o2 r h1).1
  refine (fun w => q _ _ _ w.2 w.1 ga) (zI_gen I (fun r => r = (6, d, n) ∨ r = (17, d, 1)) hf' hN' (fun k i j e => ?_) (fun k i j h7 e => ?_) (fun r e => ?_) (fun k i h e => ?_) (fun k i j k1 k7 h => ?_) (fun k i j k1 k7 h => ?_) (fun k i h => ?_) ?_ ?_ ?_ ?_)
  · rcases e with e | e <;> cases e <;> omega
  · rcases e with e | e
    · cases e
      intro z
      exact (I.2 6 d n (by omega) (by omega) z).elim (fun y => by have := y.2; omega) id
    · cases e; omega
  · have h3 : r ≠ (6, d, n) := fun y => e (Or.inl y)
    have h12 : r ≠ (17, d, 1) := fun y => e (Or.inr y)
    exact ⟨(hA' r h12).1.trans (o2 r h3).1, (hA' r h12).2.trans (o2 r h3).2⟩
  · rcases e with e | e
    · cases e; have := zLb_k h; omega
    · cases e
  · by_cases g : ((k, i, j) : zQ) = (6, d, n)
    · rw [g]
      exact Or.inr ((hA' _ (fun y => by cases y)).2.mpr V2)
    · left
      have hk : k = 1 ∨ k = 2 ∨ k = 3 ∨ k = 4 ∨ k = 5 ∨ k = 6 ∨ k = 7 := by omega
      rcases hk with rfl | rfl | rfl | rfl | rfl | rfl | rfl
      · obtain ⟨x1, x2⟩ := h; rw [so 10 (by omega) (by omega) (by omega) (by omega) (by omega)] at x1; rw [so 15 (by omega) (by omega) (by omega) (by omega) (by omega)] at x2; exact ⟨x1, x2⟩
      · obtain ⟨x1, x2⟩ := h; rw [so 10 (by omega) (by omega) (by omega) (by omega) (by omega)] at x1; exact ⟨x1, x2⟩
      · obtain ⟨x1, x2⟩ := h; rw [so 12 (by omega) (by omega) (by omega) (by omega) (by omega)] at x1; exact ⟨x1, x2⟩
      · obtain ⟨x1, x2⟩ := h; rw [so 13 (by omega) (by omega) (by omega) (by omega) (by omega)] at x1; exact ⟨x1, x2⟩
      · obtain ⟨x1, x2⟩ := h; rw [so 19 (by omega) (by omega) (by omega) (by omega) (by omega)] at x1; exact ⟨x1, x2⟩
      · obtain ⟨x1, x2⟩ := h
        rw [so 19 (by omega) (by omega) (by omega) (by omega) (by omega)] at x1
        refine ⟨x1, ?_⟩
        by_cases gi : i = d
        · subst gi
          rw [s17] at x2
          have : j ≠ n := fun y => g (by rw [y])
          omega
        · rw [s17' i gi] at x2; exact x2
      · obtain ⟨x1, x2⟩ := h; rw [so 19 (by omega) (by omega) (by omega) (by omega) (by omega)] at x1; rw [so 18 (by omega) (by omega) (by omega) (by omega) (by omega)] at x2; exact ⟨x1, x2⟩
  · rcases h with h | h | h
    · have hk : k = 1 ∨ k = 2 ∨ k = 3 ∨ k = 4 ∨ k = 5 ∨ k = 6 ∨ k = 7 := by omega
      rcases hk with rfl | rfl | rfl | rfl | rfl | rfl | rfl
      · obtain ⟨x1, x2⟩ := h; exact ⟨by rw [so 10 (by omega) (by omega) (by omega) (by omega) (by omega)]; exact x1, by rw [so 15 (by omega) (by omega) (by omega) (by omega) (by omega)]; exact x2⟩
      · obtain ⟨x1, x2⟩ := h; exact ⟨by rw [so 10 (by omega) (by omega) (by omega) (by omega) (by omega)]; exact x1, x2⟩
      · obtain ⟨x1, x2⟩ := h; exact ⟨by rw [so 12 (by omega) (by omega) (by omega) (by omega) (by omega)]; exact x1, x2⟩
      · obtain ⟨x1, x2⟩ := h; exact ⟨by rw [so 13 (by omega) (by omega) (by omega) (by omega) (by omega)]; exact x1, x2⟩
      · obtain ⟨x1, x2⟩ := h; exact ⟨by rw [so 19 (by omega) (by omega) (by omega) (by omega) (by omega)]; exact x1, x2⟩
      · obtain ⟨x1, x2⟩ := h
        refine ⟨by rw [so 19 (by omega) (by omega) (by omega) (by omega) (by omega)]; exact x1, ?_⟩
        by_cases gi : i = d
        · subst gi; rw [s17]; omega
        · rw [s17' i gi]; exact x2
      · obtain ⟨x1, x2⟩ := h; exact ⟨by rw [so 19 (by omega) (by omega) (by omega) (by omega) (by omega)]; exact x1, by rw [so 18 (by omega) (by omega) (by omega) (by omega) (by omega)]; exact x2⟩
    · cases h; exact ⟨by rw [so 19 (by omega) (by omega) (by omega) (by omega) (by omega)]; exact hd, by rw [s17]; omega⟩
    · cases h; omega
  · have hk := zLb_k h
    by_cases h17 : k = 17 ∧ i = d
    · obtain ⟨rfl, rfl⟩ := h17
      exact Or.inr hL'
    · left
      have u7 : (zBu B2 17 d b' cap' f' m').1 7 k i = B.1 7 k i := by rw [(zBu_n h17).1, w2 7 (by omega)]
      have u8 : (zBu B2 17 d b' cap' f' m').1 8 k i = B.1 8 k i := by rw [(zBu_n h17).1, w2 8 (by omega)]
      have u2 : (zBu B2 17 d b' cap' f' m').2.1 k i = B.2.1 k i := by rw [(zBu_n (f' := 7) h17).2.1, w22]
      refine ⟨?_, ?_, u7, u8, u2, ?_, ?_⟩
      · unfold zLb at h ⊢
        rw [so 10 (by omega) (by omega) (by omega) (by omega) (by omega), so 12 (by omega) (by omega) (by omega) (by omega) (by omega), so 19 (by omega) (by omega) (by omega) (by omega) (by omega)] at h
        exact h
      · intro e
        rcases e with e | e
        · cases e; omega
        · cases e; exact h17 ⟨rfl, rfl⟩
      · by_cases g : k = 17
        · subst g; exact s17' i (fun y => h17 ⟨rfl, y⟩)
        · rw [so k (by omega) (by omega) (by omega) (by omega) g]
      · intro j hj
        unfold zel
        rw [so 20 (by omega) (by omega) (by omega) (by omega) (by omega), so 21 (by omega) (by omega) (by omega) (by omega) (by omega)]
  · obtain ⟨t1, t2, t3, t4, t5⟩ := J.r
    have g0 : ∀ f'', f'' ≠ 7 → f'' ≠ 8 → f'' ≠ 6 → (zBu B2 17 d b' cap' f' m').1 f'' = B.1 f'' := fun f'' h1 h2 h3 => by rw [zBu_1 h1 h2, w2 f'' h3]
    have g6 : (zBu B2 17 d b' cap' f' m').1 6 = (zbu B 6 d n (A.1 (1, i, j))).1 6 := by rw [zBu_1 (by omega) (by omega), hB2]
    refine ⟨fun k k1 k2 => ?_, ?_, fun i hi => ?_, fun a ha => ?_, fun e he => ?_⟩
    · rw [g0 0 (by omega) (by omega) (by omega), ga _ (fun y => by cases y; omega) (fun y => by cases y)]; exact t1 k k1 k2
    · rw [g0 1 (by omega) (by omega) (by omega), so 10 (by omega) (by omega) (by omega) (by omega) (by omega), ga _ (fun y => by cases y) (fun y => by cases y)]; exact t2
    · rw [so 10 (by omega) (by omega) (by omega) (by omega) (by omega)] at hi
      rw [g0 2 (by omega) (by omega) (by omega), ga _ (fun y => by cases y) (fun y => by cases y)]; exact t3 i hi
    · rw [so 12 (by omega) (by omega) (by omega) (by omega) (by omega)] at ha
      rw [g0 3 (by omega) (by omega) (by omega), ga _ (fun y => by cases y) (fun y => by cases y)]; exact t4 a ha
    · rw [so 19 (by omega) (by omega) (by omega) (by omega) (by omega)] at he
      obtain ⟨w1, w2', w3⟩ := t5 e he
      rw [g0 4 (by omega) (by omega) (by omega), g0 5 (by omega) (by omega) (by omega), g6, so 49 (by omega) (by omega) (by omega) (by omega) (by omega)]
      refine ⟨by rw [ga _ (fun y => by cases y) (fun y => by cases y)]; exact w1, by rw [ga _ (fun y => by cases y) (fun y => by cases y)]; exact w2', fun k hk => ?_⟩
      have lv1 : ∀ x y, zLv S 1 x y → zLv (zpn S d j a b c) 1 x y := fun x y h => by
        obtain ⟨x1, x2⟩ := h
        exact ⟨by rw [so 10 (by omega) (by omega) (by omega) (by omega) (by omega)]; exact x1, by rw [so 15 (by omega) (by omega) (by omega) (by omega) (by omega)]; exact x2⟩
      by_cases g : e = d ∧ k = n
      · obtain ⟨rfl, rfl⟩ := g
        rw [zbu_s, s55, h49, ga _ (fun y => by cases y) (fun y => by cases y)]
        exact ⟨rfl, lv1 _ _ hij⟩
      · rw [zbu_n _ (fun y => g y.2), s55' _ _ g, ga _ (fun y => by cases y) (fun y => by cases y)]
        have hk' : k < S 17 e 0 := by
          by_cases ge : e = d
          · subst ge
            rw [s17] at hk
            have : k ≠ n := fun y => g ⟨rfl, y⟩
            omega
          · rw [s17' e ge] at hk; exact hk
        exact ⟨(w3 k hk').1, lv1 _ _ (w3 k hk').2⟩
  · rw [so 14 (by omega) (by omega) (by omega) (by omega) (by omega), so 19 (by omega) (by omega) (by omega) (by omega) (by omega)]; exact J.p
  · rw [zBu_1 (by omega) (by omega), w2 10 (by omega)]
  · rw [zBu_1 (by omega) (by omega), w2 11 (by omega)]
theorem m_addPiece (F : za_F G) (I : zI G A B S r0) {d i j len c : Nat} (hd : d < S 19 0 0) (h49 : S 49 d 0 = i) (hij : zLv S 1 i j) (hn : S 17 d 0 ≤ 20) (K : za_O → za_H → Prop)
    (q : ∀ A' B' r0', zX A B A' B' → zI G A' B' (zpiece S d j len c) r0' → (∀ r, r ≠ (6, d, S 17 d 0) → r ≠ (17, d, 1) → A'.1 r = A.1 r) → K (.inl none) (zmk A' B' (zpiece S d j len c) T r0')) : za_P G mX2_addPiece [.ref (A.1 (5, d, 0)), .ref (A.1 (1, i, j)), .int (nI j), .int (nI len), .int (z1 c)] (zmk A B S T r0) 2 40 K := by
  have J := I.1
  have hv := J.v (k := 5) (i := d) (j := 0) ⟨hd, rfl⟩
  have hr := (J.r.2.2.2.2 d hd).1
  have hl := J.l (k := 17) (i := d) hd
  refine za_m (y := yX2_addPiece) (cc := cX2_addPiece) (nL := 5) (ret := none) (hh := []) (fr := 7) (lk := lkX2) (hx := []) (ini := false) (cuts := fun p => false) F okX2 trivial (by decide +kernel) (by decide +kernel) (Nat.le_of_ble_eq_true rfl) (by simp [Value.category]) (fun w hw => ?_)
  refine hw 60 _ _ _ _ _ _ ?_
  simp only [za_lv_0, za_lv_s, za_isI_i, za_rf_r, za_rf_n, za_rf_v, za_ck_r, za_isC_eq, zs_f, zs_d, zs_iconst, zs_bipush, zs_sipush, zs_lconst, zs_null, zs_iload_n, zs_iload, zs_aload_n, zs_aload, za_iv_i, zs_iinc, zs_istore_n, zs_istore, zs_astore_n, zs_astore, zs_iadd, zs_isub, zs_imul, zs_iand, zs_ior, zs_ixor, zs_ishl, zs_ishr, zs_idiv, zs_i2l, zs_lcmp, zs_dup, zs_dup_x1, zs_dup2, zs_pop, zs_goto, zs_icmp, zs_ifc, zs_nonnull, zs_acmp_eq, zs_acmp_ne, za_sw_s, zs_switch, za_iaload_s, zs_iaload, za_baload_s, zs_baload, za_laload_s, zs_laload, za_aaload_s, zs_aaload, za_iastore_s, zs_iastore, za_bastore_s, zs_bastore, za_lastore_s, zs_lastore, za_aasN_s, zs_aastoreN, za_aas_s, zs_aastore, za_alg_s, za_alg_n, zs_alen, za_gf_s, za_vl_0, za_vl_s, zs_getfield, za_pf_s, zs_putfield, za_nw_s, za_nw_t, za_tx_1, za_tx_2, zs_th, zs_new, zs_newarray, za_cx_s, zs_checkcast, za_vB_s, za_vA_s, za_sX_s, za_sN_s, za_sA_5, za_sA_6, za_sA_1, za_sA_3, za_oB_s, za_iA_2, za_iA_4, zs_invokevirtual, zs_invokestatic, zs_invokespecial, zs_ireturn, zs_return, zs_areturn, zs_areturnA, za_ex0, za_go_eq, za_fit_i, za_fit_b, za_fit_b0, za_fit_b1, za_fit_r, za_fit_n, za_fit_a, za_up_s, za_upup, za_fn_0, za_fn_1, za_fn_2, za_fn_3, za_cd_eq, za_cd_ne, za_cd_lt, za_cd_ge, za_cd_gt, za_cd_le, za_cat_i, za_cat_r, za_cat_n, zb_n0, zb_n1, zb_narrow, zn_narrow, Option.toList_some, Option.toList_none, List.set_cons_zero, List.set_cons_succ, List.length_cons, List.length_nil, List.take_succ_cons, List.take_zero, List.drop_succ_cons, List.drop_zero, List.reverse_cons, List.reverse_nil, List.nil_append, List.cons_append, List.map_cons, List.map_nil, List.replicate_succ, List.replicate_zero, true_and, and_true, true_or, or_true, false_or, or_false, eq_self, not_true_eq_false, not_false_eq_true, false_implies, true_implies, implies_true, and_self, Nat.zero_add, Nat.add_zero, Nat.le_refl, Nat.zero_le, Nat.reduceEqDiff, if_true, if_false, za_t.eq_1, za_t0.eq_1, Int.cast_ofNat_Int, Int.reduceAdd, Int.reduceToNat, Int.reduceLE, Int.reduceNeg, Nat.reduceAdd, Nat.reduceSub, Nat.reduceBEq, Nat.reduceLT, Nat.reduceLeDiff, ↓reduceIte, Bool.false_eq_true, Bool.or_false, Bool.or_true, Bool.false_or, Bool.true_or, decide_true, decide_false, ge_iff_le, gt_iff_lt, dX2_addPiece_0, dX2_addPiece_1, dX2_addPiece_4, dX2_addPiece_7, dX2_addPiece_8, dX2_addPiece_9, dX2_addPiece_10, dX2_addPiece_11, dX2_addPiece_14, dX2_addPiece_15, dX2_addPiece_18, dX2_addPiece_19, dX2_addPiece_20, dX2_addPiece_22, dX2_addPiece_25, dX2_addPiece_28, dX2_addPiece_29, dX2_addPiece_30, dX2_addPiece_31, dX2_addPiece_34, dX2_addPiece_35, dX2_addPiece_36, dX2_addPiece_39, uX2_f12, uX2_f21, uX2_n46, uX2_c46, uX2_m48, uX2_m51, (zmk_at hv), zc_5]
  intro p hp
  obtain ⟨p1, p2, p3⟩ := zmk_nn hp
  rw [zmk_r0 p1]
  simp only [za_lv_0, za_lv_s, za_isI_i, za_rf_r, za_rf_n, za_rf_v, za_ck_r, za_isC_eq, zs_f, zs_d, zs_iconst, zs_bipush, zs_sipush, zs_lconst, zs_null, zs_iload_n, zs_iload, zs_aload_n, zs_aload, za_iv_i, zs_iinc, zs_istore_n, zs_istore, zs_astore_n, zs_astore, zs_iadd, zs_isub, zs_imul, zs_iand, zs_ior, zs_ixor, zs_ishl, zs_ishr, zs_idiv, zs_i2l, zs_lcmp, zs_dup, zs_dup_x1, zs_dup2, zs_pop, zs_goto, zs_icmp, zs_ifc, zs_nonnull, zs_acmp_eq, zs_acmp_ne, za_sw_s, zs_switch, za_iaload_s, zs_iaload, za_baload_s, zs_baload, za_laload_s, zs_laload, za_aaload_s, zs_aaload, za_iastore_s, zs_iastore, za_bastore_s, zs_bastore, za_lastore_s, zs_lastore, za_aasN_s, zs_aastoreN, za_aas_s, zs_aastore, za_alg_s, za_alg_n, zs_alen, za_gf_s, za_vl_0, za_vl_s, zs_getfield, za_pf_s, zs_putfield, za_nw_s, za_nw_t, za_tx_1, za_tx_2, zs_th, zs_new, zs_newarray, za_cx_s, zs_checkcast, za_vB_s, za_vA_s, za_sX_s, za_sN_s, za_sA_5, za_sA_6, za_sA_1, za_sA_3, za_oB_s, za_iA_2, za_iA_4, zs_invokevirtual, zs_invokestatic, zs_invokespecial, zs_ireturn, zs_return, zs_areturn, zs_areturnA, za_ex0, za_go_eq, za_fit_i, za_fit_b, za_fit_b0, za_fit_b1, za_fit_r, za_fit_n, za_fit_a, za_up_s, za_upup, za_fn_0, za_fn_1, za_fn_2, za_fn_3, za_cd_eq, za_cd_ne, za_cd_lt, za_cd_ge, za_cd_gt, za_cd_le, za_cat_i, za_cat_r, za_cat_n, zb_n0, zb_n1, zb_narrow, zn_narrow, Option.toList_some, Option.toList_none, List.set_cons_zero, List.set_cons_succ, List.length_cons, List.length_nil, List.take_succ_cons, List.take_zero, List.drop_succ_cons, List.drop_zero, List.reverse_cons, List.reverse_nil, List.nil_append, List.cons_append, List.map_cons, List.map_nil, List.replicate_succ, List.replicate_zero, true_and, and_true, true_or, or_true, false_or, or_false, eq_self, not_true_eq_false, not_false_eq_true, false_implies, true_implies, implies_true, and_self, Nat.zero_add, Nat.add_zero, Nat.le_refl, Nat.zero_le, Nat.reduceEqDiff, if_true, if_false, za_t.eq_1, za_t0.eq_1, Int.cast_ofNat_Int, Int.reduceAdd, Int.reduceToNat, Int.reduceLE, Int.reduceNeg, Nat.reduceAdd, Nat.reduceSub, Nat.reduceBEq, Nat.reduceLT, Nat.reduceLeDiff, ↓reduceIte, Bool.false_eq_true, Bool.or_false, Bool.or_true, Bool.false_or, Bool.true_or, decide_true, decide_false, ge_iff_le, gt_iff_lt, dX2_addPiece_0, dX2_addPiece_1, dX2_addPiece_4, dX2_addPiece_7, dX2_addPiece_8, dX2_addPiece_9, dX2_addPiece_10, dX2_addPiece_11, dX2_addPiece_14, dX2_addPiece_15, dX2_addPiece_18, dX2_addPiece_19, dX2_addPiece_20, dX2_addPiece_22, dX2_addPiece_25, dX2_addPiece_28, dX2_addPiece_29, dX2_addPiece_30, dX2_addPiece_31, dX2_addPiece_34, dX2_addPiece_35, dX2_addPiece_36, dX2_addPiece_39, uX2_f12, uX2_f21, uX2_n46, uX2_c46, uX2_m48, uX2_m51, (zmk_at hv), zc_5, nI_add]
  refine za_call (mc' := 0) (ms' := 0) (by omega) (by omega) (m_PieceI F (by rw [zmk_no p1]; exact za_up_s _ _ _) _ ?_)
  rw [zmk_r0 p1, za_upup]
  have I2 := zJ_r0 (q := p) (e := .inr (6, [.ref (A.1 (1, i, j)), .int (nI j), .int (nI (S 51 d 0)), .int (nI (S 51 d 0 + len)), .int (z1 c)])) I p3
  simp only [za_lv_0, za_lv_s, za_isI_i, za_rf_r, za_rf_n, za_rf_v, za_ck_r, za_isC_eq, zs_f, zs_d, zs_iconst, zs_bipush, zs_sipush, zs_lconst, zs_null, zs_iload_n, zs_iload, zs_aload_n, zs_aload, za_iv_i, zs_iinc, zs_istore_n, zs_istore, zs_astore_n, zs_astore, zs_iadd, zs_isub, zs_imul, zs_iand, zs_ior, zs_ixor, zs_ishl, zs_ishr, zs_idiv, zs_i2l, zs_lcmp, zs_dup, zs_dup_x1, zs_dup2, zs_pop, zs_goto, zs_icmp, zs_ifc, zs_nonnull, zs_acmp_eq, zs_acmp_ne, za_sw_s, zs_switch, za_iaload_s, zs_iaload, za_baload_s, zs_baload, za_laload_s, zs_laload, za_aaload_s, zs_aaload, za_iastore_s, zs_iastore, za_bastore_s, zs_bastore, za_lastore_s, zs_lastore, za_aasN_s, zs_aastoreN, za_aas_s, zs_aastore, za_alg_s, za_alg_n, zs_alen, za_gf_s, za_vl_0, za_vl_s, zs_getfield, za_pf_s, zs_putfield, za_nw_s, za_nw_t, za_tx_1, za_tx_2, zs_th, zs_new, zs_newarray, za_cx_s, zs_checkcast, za_vB_s, za_vA_s, za_sX_s, za_sN_s, za_sA_5, za_sA_6, za_sA_1, za_sA_3, za_oB_s, za_iA_2, za_iA_4, zs_invokevirtual, zs_invokestatic, zs_invokespecial, zs_ireturn, zs_return, zs_areturn, zs_areturnA, za_ex0, za_go_eq, za_fit_i, za_fit_b, za_fit_b0, za_fit_b1, za_fit_r, za_fit_n, za_fit_a, za_up_s, za_upup, za_fn_0, za_fn_1, za_fn_2, za_fn_3, za_cd_eq, za_cd_ne, za_cd_lt, za_cd_ge, za_cd_gt, za_cd_le, za_cat_i, za_cat_r, za_cat_n, zb_n0, zb_n1, zb_narrow, zn_narrow, Option.toList_some, Option.toList_none, List.set_cons_zero, List.set_cons_succ, List.length_cons, List.length_nil, List.take_succ_cons, List.take_zero, List.drop_succ_cons, List.drop_zero, List.reverse_cons, List.reverse_nil, List.nil_append, List.cons_append, List.map_cons, List.map_nil, List.replicate_succ, List.replicate_zero, true_and, and_true, true_or, or_true, false_or, or_false, eq_self, not_true_eq_false, not_false_eq_true, false_implies, true_implies, implies_true, and_self, Nat.zero_add, Nat.add_zero, Nat.le_refl, Nat.zero_le, Nat.reduceEqDiff, if_true, if_false, za_t.eq_1, za_t0.eq_1, Int.cast_ofNat_Int, Int.reduceAdd, Int.reduceToNat, Int.reduceLE, Int.reduceNeg, Nat.reduceAdd, Nat.reduceSub, Nat.reduceBEq, Nat.reduceLT, Nat.reduceLeDiff, ↓reduceIte, Bool.false_eq_true, Bool.or_false, Bool.or_true, Bool.false_or, Bool.true_or, decide_true, decide_false, ge_iff_le, gt_iff_lt, dX2_addPiece_0, dX2_addPiece_1, dX2_addPiece_4, dX2_addPiece_7, dX2_addPiece_8, dX2_addPiece_9, dX2_addPiece_10, dX2_addPiece_11, dX2_addPiece_14, dX2_addPiece_15, dX2_addPiece_18, dX2_addPiece_19, dX2_addPiece_20, dX2_addPiece_22, dX2_addPiece_25, dX2_addPiece_28, dX2_addPiece_29, dX2_addPiece_30, dX2_addPiece_31, dX2_addPiece_34, dX2_addPiece_35, dX2_addPiece_36, dX2_addPiece_39, uX2_f12, uX2_f21, uX2_n46, uX2_c46, uX2_m48, uX2_m51, (zmk_at hv), zc_5, hr, (zmk_at hl.1), zc_17]
  have hcost : zcost B S 17 d ≤ 30 := by
    unfold zcost
    split
    · unfold zcap; split <;> omega
    · omega
  refine za_call (mc' := 1) (ms' := zcost B S 17 d) (by omega) (by omega) (p_piece (v := p) F I2 hd h49 hij (by omega) p1 p3 (za_up_s _ _ _) _ fun A' B' r0' X' I' hA' => ?_)
  have s51 : zpn S d j (S 51 d 0) (S 51 d 0 + len) c 51 = S 51 := zpn_o S _ _ _ _ _ (by omega) (by omega) (by omega) (by omega) (by omega)
  have s19 : zpn S d j (S 51 d 0) (S 51 d 0 + len) c 19 = S 19 := zpn_o S _ _ _ _ _ (by omega) (by omega) (by omega) (by omega) (by omega)
  have hv' := I'.1.v (k := 5) (i := d) (j := 0) ⟨by rw [s19]; exact hd, rfl⟩
  rw [← hA' (5, d, 0) (fun y => by cases y) (fun y => by cases y)]
  have q' := q A' B' r0' X' (zI_zup (f := 51) (i := d) (j := 0) (v := S 51 d 0 + len) I' (by omega)) hA'
  unfold zpiece at q'
  simp only [za_lv_0, za_lv_s, za_isI_i, za_rf_r, za_rf_n, za_rf_v, za_ck_r, za_isC_eq, zs_f, zs_d, zs_iconst, zs_bipush, zs_sipush, zs_lconst, zs_null, zs_iload_n, zs_iload, zs_aload_n, zs_aload, za_iv_i, zs_iinc, zs_istore_n, zs_istore, zs_astore_n, zs_astore, zs_iadd, zs_isub, zs_imul, zs_iand, zs_ior, zs_ixor, zs_ishl, zs_ishr, zs_idiv, zs_i2l, zs_lcmp, zs_dup, zs_dup_x1, zs_dup2, zs_pop, zs_goto, zs_icmp, zs_ifc, zs_nonnull, zs_acmp_eq, zs_acmp_ne, za_sw_s, zs_switch, za_iaload_s, zs_iaload, za_baload_s, zs_baload, za_laload_s, zs_laload, za_aaload_s, zs_aaload, za_iastore_s, zs_iastore, za_bastore_s, zs_bastore, za_lastore_s, zs_lastore, za_aasN_s, zs_aastoreN, za_aas_s, zs_aastore, za_alg_s, za_alg_n, zs_alen, za_gf_s, za_vl_0, za_vl_s, zs_getfield, za_pf_s, zs_putfield, za_nw_s, za_nw_t, za_tx_1, za_tx_2, zs_th, zs_new, zs_newarray, za_cx_s, zs_checkcast, za_vB_s, za_vA_s, za_sX_s, za_sN_s, za_sA_5, za_sA_6, za_sA_1, za_sA_3, za_oB_s, za_iA_2, za_iA_4, zs_invokevirtual, zs_invokestatic, zs_invokespecial, zs_ireturn, zs_return, zs_areturn, zs_areturnA, za_ex0, za_go_eq, za_fit_i, za_fit_b, za_fit_b0, za_fit_b1, za_fit_r, za_fit_n, za_fit_a, za_up_s, za_upup, za_fn_0, za_fn_1, za_fn_2, za_fn_3, za_cd_eq, za_cd_ne, za_cd_lt, za_cd_ge, za_cd_gt, za_cd_le, za_cat_i, za_cat_r, za_cat_n, zb_n0, zb_n1, zb_narrow, zn_narrow, Option.toList_some, Option.toList_none, List.set_cons_zero, List.set_cons_succ, List.length_cons, List.length_nil, List.take_succ_cons, List.take_zero, List.drop_succ_cons, List.drop_zero, List.reverse_cons, List.reverse_nil, List.nil_append, List.cons_append, List.map_cons, List.map_nil, List.replicate_succ, List.replicate_zero, true_and, and_true, true_or, or_true, false_or, or_false, eq_self, not_true_eq_false, not_false_eq_true, false_implies, true_implies, implies_true, and_self, Nat.zero_add, Nat.add_zero, Nat.le_refl, Nat.zero_le, Nat.reduceEqDiff, if_true, if_false, za_t.eq_1, za_t0.eq_1, Int.cast_ofNat_Int, Int.reduceAdd, Int.reduceToNat, Int.reduceLE, Int.reduceNeg, Nat.reduceAdd, Nat.reduceSub, Nat.reduceBEq, Nat.reduceLT, Nat.reduceLeDiff, ↓reduceIte, Bool.false_eq_true, Bool.or_false, Bool.or_true, Bool.false_or, Bool.true_or, decide_true, decide_false, ge_iff_le, gt_iff_lt, dX2_addPiece_0, dX2_addPiece_1, dX2_addPiece_4, dX2_addPiece_7, dX2_addPiece_8, dX2_addPiece_9, dX2_addPiece_10, dX2_addPiece_11, dX2_addPiece_14, dX2_addPiece_15, dX2_addPiece_18, dX2_addPiece_19, dX2_addPiece_20, dX2_addPiece_22, dX2_addPiece_25, dX2_addPiece_28, dX2_addPiece_29, dX2_addPiece_30, dX2_addPiece_31, dX2_addPiece_34, dX2_addPiece_35, dX2_addPiece_36, dX2_addPiece_39, uX2_f12, uX2_f21, uX2_n46, uX2_c46, uX2_m48, uX2_m51, (zmk_at hv'), zc_5, nI_add, (zst_51 I'.1.f hv')]
  rw [s51]
  exact ⟨by omega, q'⟩
end ZDG
