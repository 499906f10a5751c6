/-! THE LAW (6): what a song that goes out does -/
section YLF
variable {S S' Z : zS}
theorem ysq_c (Z : zS) (k : Nat) : ∀ m, zcn (zsq Z k) k m = zcn Z k m
  | 0 => rfl
  | m + 1 => by
    have e33 : zsq Z k 33 k m = Z 33 k m := by rw [zsq_33, if_neg (fun z => by omega)]
    have eo : zout (zsq Z k) k m = zout Z k m := zout_S (zsq_o _ _ (by omega) (by omega) (by omega) (by omega)) (zsq_o _ _ (by omega) (by omega) (by omega) (by omega)) (zsq_o _ _ (by omega) (by omega) (by omega) (by omega)) k m
    unfold zcn
    rw [ysq_c Z k m, e33, eo]
theorem ysq_u (Z : zS) {i n : Nat} (h : i < n) : ∀ m, m ≤ Z 15 i 0 → zunc (zsq Z n) i m + zcn Z i m = zunc Z i m
  | 0, _ => rfl
  | m + 1, hm => by
    have ih := ysq_u Z h m (by omega)
    have e33 : zsq Z n 33 i m = if Z 33 i m = 0 ∧ zout Z i m = true then 1 else Z 33 i m := by
      rw [zsq_33]
      by_cases z : Z 33 i m = 0 ∧ zout Z i m = true
      · rw [if_pos z, if_pos ⟨h, by omega, z.1, z.2⟩]
      · rw [if_neg z, if_neg (fun y => z ⟨y.2.2.1, y.2.2.2⟩)]
    unfold zunc zcn
    rw [e33]
    by_cases z : Z 33 i m = 0 ∧ zout Z i m = true
    · simp only [if_pos z, if_pos z.1]
      rw [if_neg (by omega)]
      omega
    · simp only [if_neg z]
      omega
theorem ysq_st (Z : zS) (n : Nat) : ((0 < zcn Z n (Z 15 n 0) ∧ Z 36 n 0 ≤ Z 0 0 0) → zsq Z (n + 1) 11 0 0 = zsq Z n 11 0 0 + 1 ∧ zsq Z (n + 1) 20 (zsq Z n 11 0 0) 0 = n) ∧ (¬ (0 < zcn Z n (Z 15 n 0) ∧ Z 36 n 0 ≤ Z 0 0 0) → zsq Z (n + 1) 11 0 0 = zsq Z n 11 0 0) ∧ ∀ l, l < zsq Z n 11 0 0 → zsq Z (n + 1) 20 l 0 = zsq Z n 20 l 0 := by
  have e15 : zsq Z n 15 = Z 15 := zsq_o _ _ (by omega) (by omega) (by omega) (by omega)
  have e36 : zsq Z n 36 = Z 36 := zsq_o _ _ (by omega) (by omega) (by omega) (by omega)
  have e0 : zsq Z n 0 = Z 0 := zsq_o _ _ (by omega) (by omega) (by omega) (by omega)
  have c11 : zcut (zsq Z n) n 11 = zsq Z n 11 := zcut_o _ _ (by omega) (by omega)
  have c20 : zcut (zsq Z n) n 20 = zsq Z n 20 := zcut_o _ _ (by omega) (by omega)
  have c36 : zcut (zsq Z n) n 36 = Z 36 := (zcut_o _ _ (by omega) (by omega)).trans e36
  have c0 : zcut (zsq Z n) n 0 = Z 0 := (zcut_o _ _ (by omega) (by omega)).trans e0
  have ec := ysq_c Z n (Z 15 n 0)
  have es : zsq Z (n + 1) = if 0 < zcn (zsq Z n) n (Z 15 n 0) then znote (zcut (zsq Z n) n) n else zcut (zsq Z n) n := rfl
  rw [ec] at es
  by_cases z1 : 0 < zcn Z n (Z 15 n 0)
  · rw [if_pos z1] at es
    unfold znote at es
    rw [c36, c0] at es
    by_cases z2 : Z 36 n 0 ≤ Z 0 0 0
    · rw [if_pos z2] at es
      rw [es, c11]
      refine ⟨fun _ => ⟨zup_s _ _ _ _ _, (zup_n _ (by omega)).trans (zup_s _ _ _ _ _)⟩, fun z => absurd ⟨z1, z2⟩ z, fun l hl => ?_⟩
      rw [zup_n _ (by omega), zup_n _ (by omega), c20]
    · rw [if_neg z2] at es
      rw [es, c11, c20]
      exact ⟨fun z => absurd z.2 z2, fun _ => rfl, fun _ _ => rfl⟩
  · rw [if_neg z1] at es
    rw [es, c11, c20]
    exact ⟨fun z => absurd z.1 z1, fun _ => rfl, fun _ _ => rfl⟩
theorem ysq_l (Z : zS) (k : Nat) : ∀ d, zsq Z k 11 0 0 ≤ zsq Z (k + d) 11 0 0 ∧ ∀ l, l < zsq Z k 11 0 0 → zsq Z (k + d) 20 l 0 = zsq Z k 20 l 0
  | 0 => ⟨Nat.le_refl _, fun _ _ => rfl⟩
  | d + 1 => by
    obtain ⟨i1, i2⟩ := ysq_l Z k d
    obtain ⟨s1, s2, s3⟩ := ysq_st Z (k + d)
    rw [← Nat.add_assoc]
    refine ⟨?_, fun l hl => ?_⟩
    · by_cases z : 0 < zcn Z (k + d) (Z 15 (k + d) 0) ∧ Z 36 (k + d) 0 ≤ Z 0 0 0
      · rw [(s1 z).1]; omega
      · rw [s2 z]; exact i1
    · rw [s3 l (by omega)]
      exact i2 l hl
end YLF
section YLF2
variable {G : za_G} {A A' : zA} {B B' : zB} {S S' : zS} {T T' : zT} {r0 r0' : za_H} {x0 x1 x2 x3 x4 x9 n : Nat} {f : Nat → Int32}
/-- roles that are not the class's may be others -/
theorem zI_frm (I : zI G A B S r0) (hf : zF A') (hN : zN G A' r0') (hA : ∀ r : zQ, r.1 ≤ 18 → A'.1 r = A.1 r ∧ (zV A' r ↔ zV A r)) : zI G A' B S r0' := by
  obtain ⟨J, C⟩ := I
  obtain ⟨t1, t2, t3, t4, t5⟩ := J.r
  have a1 : ∀ k i j, k ≤ 18 → A.1 (k, i, j) = A'.1 (k, i, j) := fun k i j h => ((hA (k, i, j) h).1).symm
  refine ⟨⟨hf, hN, (hA (0, 0, 0) (by show 0 ≤ 18; omega)).2.mpr J.x, fun k i j k1 k7 p => (hA (k, i, j) (by show k ≤ 18; omega)).2.mpr (J.v p k1 k7), fun k i p => ?_, ⟨fun k b c => (t1 k b c).trans (a1 _ _ _ (by omega)), t2.trans (a1 _ _ _ (by omega)), fun i hi => (t3 i hi).trans (a1 _ _ _ (by omega)), fun a ha => (t4 a ha).trans (a1 _ _ _ (by omega)), fun d hd => ⟨(t5 d hd).1.trans (a1 _ _ _ (by omega)), (t5 d hd).2.1.trans (a1 _ _ _ (by omega)), fun k hk => ⟨((t5 d hd).2.2 k hk).1.trans (a1 _ _ _ (by omega)), ((t5 d hd).2.2 k hk).2⟩⟩⟩, J.p⟩, fun k i j k1 k7 z => C k i j k1 k7 ((hA (k, i, j) (by show k ≤ 18; omega)).2.mp z)⟩
  have hk := zLb_k p
  exact zL_fr (J.l p) rfl rfl rfl rfl (fun _ _ => rfl) ⟨(hA (k, i, 0) (by show k ≤ 18; omega)).1, (hA (k, i, 0) (by show k ≤ 18; omega)).2.mpr⟩ ⟨(hA (k, i, 1) (by show k ≤ 18; omega)).1, (hA (k, i, 1) (by show k ≤ 18; omega)).2.mpr⟩ (fun j hj hv => by
    have hz := (zel_7 S k i j).2
    exact ⟨(hA _ (by omega)).1, (hA _ (by omega)).2.mpr hv⟩)
/-- the row of what was left -/
def yL4 (A : zA) (x4 : Nat) : Prop := zV A (31, 4, 0) ∧ A.1 (31, 4, 0) = x4
theorem yb4 (L : yL4 A x4) : zmk A B S T r0 x4 = some (.inl (.int, 24, .inl (T.1 4))) := by rw [← L.2]; exact zmk_at L.1
theorem yu4 (I : zI G A B S r0) (L : yL4 A x4) (g : Nat → Int32) : za_up (zmk A B S T r0) x4 (.inl (.int, 24, .inl g)) = zmk A B S (ztu T 4 g) r0 := by rw [← L.2]; exact zmu_4 I.1.f L.1 g
theorem yL4_X (L : yL4 A x4) (X : zX A B A' B') : yL4 A' x4 := by
  have h := X.1 (31, 4, 0) (Or.inr (by show 19 ≤ 31; decide))
  exact ⟨h.2 L.1, h.1.trans L.2⟩
theorem y_new4 (L : yB G A B S T r0 x0 x1 x2 x3 x9 n f) (hq : za_nn G (zmk A B S T r0) x4) : ∃ A' r0', za_up (zmk A B S T r0) x4 (.inl (.int, 24, .inl (fun _ => 0))) = zmk A' B S (ztu T 4 (fun _ => 0)) r0' ∧ yB G A' B S (ztu T 4 (fun _ => 0)) r0' x0 x1 x2 x3 x9 n f ∧ yL4 A' x4 := by
  obtain ⟨q1, q2, q3⟩ := zmk_nn hq
  have e : zmk A B S T (za_up r0 x4 (.inl (.int, 24, .inl (fun _ => 0)))) = zmk (zad A (31, 4, 0) x4) B S (ztu T 4 (fun _ => 0)) (zr0 A (31, 4, 0) (zcon B S T (31, 4, 0)) (za_up r0 x4 (.inl (.int, 24, .inl (fun _ => 0))))) :=
    zmk_ad q1 (by rw [za_up_s, zc_31_4, ztu_s]) (fun r' h => zcon_tu (by omega) h)
  refine ⟨_, _, (zmk_r0 q1).trans e, ?_, zad_V _ _ _, zad_s _ _ _⟩
  obtain ⟨I, ⟨m1, m2, m3, m4⟩, ⟨c1, c2, c3, c4, c5⟩, d, e9, V, Y⟩ := L
  have g : ∀ r : zQ, r ≠ (31, 4, 0) → (zad A (31, 4, 0) x4).1 r = A.1 r ∧ (zV (zad A (31, 4, 0) x4) r ↔ zV A r) := fun r h => ⟨zad_n _ _ h, zad_Vn q1 h⟩
  have hN : zN G (zad A (31, 4, 0) x4) (zr0 A (31, 4, 0) (zcon B S T (31, 4, 0)) (za_up r0 x4 (.inl (.int, 24, .inl (fun _ => 0))))) := ⟨zad_no I.1.n.1 q3.symm, by rw [zr0_no I.1.n.1, za_up_n _ _ q3.symm]; exact I.1.n.2⟩
  refine ⟨zI_frm I (zad_F I.1.f _ _) hN (fun r hr => g r (fun y => by rw [y] at hr; simp at hr)), ⟨(g _ (fun y => by cases y)).2.mpr m1, (g _ (fun y => by cases y)).2.mpr m2, (g _ (fun y => by cases y)).2.mpr m3, (g _ (fun y => by cases y)).2.mpr m4⟩, ⟨(g _ (fun y => by cases y)).1.trans c1, (g _ (fun y => by cases y)).1.trans c2, (g _ (fun y => by cases y)).1.trans c3, (g _ (fun y => by cases y)).1.trans c4, (g _ (fun y => by cases y)).1.trans c5⟩, d, (ztu_n _ _ (by omega)).trans e9, V, yI_o Y (fun _ _ => rfl) (ztu_n _ _ (by omega))⟩
theorem y_songOut (F : za_F G) (L : yB G A B S T r0 x0 x1 x2 x3 x9 n f) (h11 : S 11 0 0 ≤ 900) {s : Nat} (hs : s < 10) (hb : (S 1 0 0).testBit s = false) (K : za_O → za_H → Prop) (q : ∀ A' B' r0', zX A B A' B' → zI G A' B' (zsq (zup S 1 0 0 (S 1 0 0 ||| 2 ^ s)) (S 10 0 0)) r0' → K (.inl (some (.int (nI (zsn (zup S 1 0 0 (S 1 0 0 ||| 2 ^ s)) (S 10 0 0)))))) (zmk A' B' (zsq (zup S 1 0 0 (S 1 0 0 ||| 2 ^ s)) (S 10 0 0)) T r0')) : za_P G mX7_songOut [.ref x0, .int (nI s)] (zmk A B S T r0) 26 8100 K := by
  have V2 := zv_2 L.V
  rw [← L.e0]
  refine t_songOut F L.1 L.V.1 V2.1 h11 (zv_1 L.V).2.1 (fun i j hi hj => (zv_4 L.V i j (by omega) hj).2.1) _ K (fun z => absurd (y_rg hs (by omega)) z) (fun s' h1 h2 h3 => ?_) (fun s' h1 h2 h3 => ?_)
  · rw [← y_ne (by omega) (by omega) h2, hb] at h3
    cases h3
  · rw [← y_ne (by omega) (by omega) h2]
    exact q
end YLF2
