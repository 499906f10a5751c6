/-! THE LAW (8): an item, hours that pass: the numbers -/
section YLH
variable {S S' Z : zS} {T T' : zT}
theorem yDr_use {c : Nat} (D : yDr S S' c True) : zuse S' (S' 15 (S' 10 0 0) 0) 0 = true ∧ 1 ≤ c := by
  obtain ⟨V, o, o15, e15, ep⟩ := D
  obtain ⟨m, m1, m2⟩ := ep trivial
  have e10 : S' 10 0 0 = S 10 0 0 := by rw [o 10 (by omega) (by omega)]
  refine ⟨(zuse_t S' _ 0).mpr ⟨m, by omega, by rw [e10, e15]; omega, ?_⟩, by omega⟩
  unfold zout
  rw [e10, decide_eq_false m2, Bool.false_and]
theorem yit {c m n : Nat} (V : zinv S) (Y : yI S T) (N : yN S T (S 11 0 0)) (D : yDr S S' c True) (h24 : S 10 0 0 < 24) (h11 : S 11 0 0 ≤ 900) (hm : m ≤ 1) (hn : n ≤ 9999) :
    zinv (znote (zcut (zitem S' m n) (S' 10 0 0)) (S' 10 0 0)) ∧ yI (znote (zcut (zitem S' m n) (S' 10 0 0)) (S' 10 0 0)) (ztu T 3 (upd (T.1 3) (S 10 0 0) (nI n))) ∧ yN (znote (zcut (zitem S' m n) (S' 10 0 0)) (S' 10 0 0)) (ztu T 3 (upd (T.1 3) (S 10 0 0) (nI n))) (S 11 0 0) ∧
    (znote (zcut (zitem S' m n) (S' 10 0 0)) (S' 10 0 0) 10 0 0 = S 10 0 0 + 1 ∧ znote (zcut (zitem S' m n) (S' 10 0 0)) (S' 10 0 0) 1 0 0 = S 1 0 0 ∧ znote (zcut (zitem S' m n) (S' 10 0 0)) (S' 10 0 0) 0 0 0 = S 0 0 0 ∧ zpot (znote (zcut (zitem S' m n) (S' 10 0 0)) (S' 10 0 0)) ≤ zpot S + 1) ∧
    (n ≤ S 0 0 0 → znote (zcut (zitem S' m n) (S' 10 0 0)) (S' 10 0 0) 11 0 0 = S 11 0 0 + 1 ∧ znote (zcut (zitem S' m n) (S' 10 0 0)) (S' 10 0 0) 20 (S 11 0 0) 0 = S 10 0 0) ∧ (¬ n ≤ S 0 0 0 → znote (zcut (zitem S' m n) (S' 10 0 0)) (S' 10 0 0) 11 0 0 = S 11 0 0) := by
  obtain ⟨hu, hc⟩ := yDr_use D
  obtain ⟨V', o, o15, e15, -⟩ := D
  obtain ⟨y1, y2, y3, y4, y5, y6⟩ := Y
  have e10 : S' 10 0 0 = S 10 0 0 := by rw [o 10 (by omega) (by omega)]
  have pot : zpot (znote (zcut (zitem S' m n) (S' 10 0 0)) (S' 10 0 0)) ≤ zpot S' + 1 := zpot_item S' m n
  rw [zpot_o (S := S) (S' := S') (o 0 (by omega) (by omega)) (o 1 (by omega) (by omega)) (o 10 (by omega) (by omega)) (o 11 (by omega) (by omega)) (o 36 (by omega) (by omega))] at pot
  have V2 := zV_item V' (x := m) (y := n) (by omega) (by omega) hn hu
  obtain ⟨i1, i2, i3, i4, ⟨i5, i6, i7⟩, i8, i9, i10⟩ := zitem_e V' m n hu
  have c11 : zcut (zitem S' m n) (S' 10 0 0) 11 = S 11 := (i1 11 (by decide)).trans (o 11 (by omega) (by omega))
  have V3 := zV_note V2 (i := S' 10 0 0) (by rw [i2]; omega) (by rw [c11]; omega)
  rw [e10] at i1 i2 i3 i4 i5 i6 i7 i8 i9 i10 c11 V2 V3 pot ⊢
  generalize hC : zcut (zitem S' m n) (S 10 0 0) = C at *
  have no : ∀ g, g ≠ 20 → g ≠ 11 → znote C (S 10 0 0) g = C g := fun g a b => znote_o C _ a b
  have c0 : C 0 = S 0 := (i1 0 (by decide)).trans (o 0 (by omega) (by omega))
  have c20 : C 20 = S 20 := (i1 20 (by decide)).trans (o 20 (by omega) (by omega))
  have n20 : ∀ j, j < S 11 0 0 → znote C (S 10 0 0) 20 j 0 = S 20 j 0 := fun j hj => by
    unfold znote
    split
    · rw [zup_n _ (by omega), zup_n _ (by rw [c11]; omega), c20]
    · rw [c20]
  refine ⟨V3, ?_, ?_, ⟨?_, ?_, ?_, pot⟩, fun z => ?_, fun z => ?_⟩
  · unfold yI
    rw [no 12 (by omega) (by omega), no 38 (by omega) (by omega), no 10 (by omega) (by omega), no 35 (by omega) (by omega), no 15 (by omega) (by omega), no 36 (by omega) (by omega), i2, i1 12 (by decide), i1 38 (by decide), o 12 (by omega) (by omega), o 38 (by omega) (by omega), ztu_s]
    refine ⟨y1, y2, y3, fun i hi => ?_, i3, fun j hj => ?_⟩
    · by_cases e : i = S 10 0 0
      · subst e
        rw [i5, i4 _ (Nat.le_refl _), e15]
        exact ⟨hm, hc⟩
      · rw [i8 35 i (by omega) e, i4 i (by omega), o15 i e, o 35 (by omega) (by omega)]
        exact y4 i (by omega)
    · by_cases e : j = S 10 0 0
      · subst e
        rw [pk_us, i6]
      · rw [pk_un e, i8 36 j (by omega) e, o 36 (by omega) (by omega)]
        exact y6 j (by omega)
  · refine yN_S (fun a _ => ?_) (fun a _ => ?_) (fun j hj => ⟨n20 j hj, ?_⟩) N (ztu_n _ _ (by omega)) (ztu_n _ _ (by omega))
    · rw [no 39 (by omega) (by omega), i1 39 (by decide), o 39 (by omega) (by omega)]
    · rw [no 38 (by omega) (by omega), i1 38 (by decide), o 38 (by omega) (by omega)]
    · have := zv_10 V j hj
      rw [no 35 (by omega) (by omega), i8 35 _ (by omega) (by omega), o 35 (by omega) (by omega)]
  · rw [no 10 (by omega) (by omega), i2]
  · rw [no 1 (by omega) (by omega), i1 1 (by decide), o 1 (by omega) (by omega)]
  · rw [no 0 (by omega) (by omega), c0]
  · unfold znote
    rw [i6, c0, c11, if_pos z]
    exact ⟨zup_s _ _ _ _ _, (zup_n _ (by omega)).trans (zup_s _ _ _ _ _)⟩
  · unfold znote
    rw [i6, c0, if_neg z, c11]
theorem yrl_st (Z : zS) (n : Nat) : (Z 36 n 0 = Z 0 0 0 → zrl Z (n + 1) 11 0 0 = zrl Z n 11 0 0 + 1 ∧ zrl Z (n + 1) 20 (zrl Z n 11 0 0) 0 = n) ∧ (¬ Z 36 n 0 = Z 0 0 0 → zrl Z (n + 1) 11 0 0 = zrl Z n 11 0 0) ∧ ∀ l, l < zrl Z n 11 0 0 → zrl Z (n + 1) 20 l 0 = zrl Z n 20 l 0 := by
  have es : zrl Z (n + 1) = if Z 36 n 0 = Z 0 0 0 then zchg (zrl Z n) n else zrl Z n := rfl
  by_cases z : Z 36 n 0 = Z 0 0 0
  · rw [if_pos z] at es
    rw [es]
    unfold zchg
    exact ⟨fun _ => ⟨zup_s _ _ _ _ _, (zup_n _ (by omega)).trans (zup_s _ _ _ _ _)⟩, fun y => absurd z y, fun l hl => (zup_n _ (by omega)).trans (zup_n _ (by omega))⟩
  · rw [if_neg z] at es
    rw [es]
    exact ⟨fun y => absurd y z, fun _ => rfl, fun _ _ => rfl⟩
theorem yrl_l (Z : zS) (k : Nat) : ∀ d, zrl Z k 11 0 0 ≤ zrl Z (k + d) 11 0 0 ∧ ∀ l, l < zrl Z k 11 0 0 → zrl Z (k + d) 20 l 0 = zrl Z k 20 l 0
  | 0 => ⟨Nat.le_refl _, fun _ _ => rfl⟩
  | d + 1 => by
    obtain ⟨i1, i2⟩ := yrl_l Z k d
    obtain ⟨s1, s2, s3⟩ := yrl_st Z (k + d)
    rw [← Nat.add_assoc]
    refine ⟨?_, fun l hl => ?_⟩
    · by_cases z : Z 36 (k + d) 0 = Z 0 0 0
      · rw [(s1 z).1]; omega
      · rw [s2 z]; exact i1
    · rw [s3 l (by omega)]
      exact i2 l hl
end YLH
section YLH2
variable {G : za_G} {A A' : zA} {B B' : zB} {S S' : zS} {T T' : zT} {r0 r0' : za_H} {x0 x1 x2 x3 x9 n : Nat} {f : Nat → Int32}
theorem y_hour0 (F : za_F G) (I : zI G A B S r0) (e0 : A.1 (0, 0, 0) = x0) (K : za_O → za_H → Prop) (q : K (.inl (some (.int (nI (S 0 0 0))))) (zmk A B S T r0)) : za_P G mX7_hour [.ref x0] (zmk A B S T r0) 0 0 K := by
  rw [← e0]
  exact t_hour F I K q
theorem y_lk (L : yB G A B S T r0 x0 x1 x2 x3 x9 n f) (X : zX A B A' B') (I : zI G A' B' S' r0') : (∀ T', zmk A' B' S' T' r0' x3 = some (.inl (.int, 24, .inl (T'.1 3)))) ∧ ∀ T' g, za_up (zmk A' B' S' T' r0') x3 (.inl (.int, 24, .inl g)) = zmk A' B' S' (ztu T' 3 g) r0' := by
  obtain ⟨h1, h2⟩ := X.1 (31, 3, 0) (Or.inr (by show 19 ≤ 31; decide))
  have e : A'.1 (31, 3, 0) = x3 := h1.trans L.2.2.1.2.2.2.1
  have v := h2 L.2.1.2.2.1
  rw [← e]
  exact ⟨fun T' => zmk_at v, fun T' g => zmu_3 I.1.f v g⟩
theorem y_item (F : za_F G) (I : zI G A B S r0) (V : zinv S) (h11 : S 11 0 0 ≤ 900) (e0 : A.1 (0, 0, 0) = x0) {m n : Nat} (hm : m < 4) (h0 : S 0 0 0 ≤ n) (hn : n ≤ 9999) (hu : zuse S (S 15 (S 10 0 0) 0) 0 = true) (h24 : S 10 0 0 < 24) (K : za_O → za_H → Prop) (q : ∀ A' B' r0', zX A B A' B' → zI G A' B' (znote (zcut (zitem S m n) (S 10 0 0)) (S 10 0 0)) r0' → K (.inl (some (.int (nI (S 10 0 0))))) (zmk A' B' (znote (zcut (zitem S m n) (S 10 0 0)) (S 10 0 0)) T r0')) : za_P G mX7_item [.ref x0, .int (nI m), .int (nI n)] (zmk A B S T r0) 8 2000 K := by
  rw [← e0]
  have hn' : (nI n).toInt = (n : Int) := nI_toInt (by omega)
  refine t_item F I V.1 (by omega) (by omega) (fun i j hi hj => (zv_4 V i j hi hj).2.1) _ _ K (fun z => absurd (y_rg hm (by omega)) z) (fun _ z => absurd ⟨by omega, by omega⟩ z) (fun _ _ z => ?_) (fun m' n' h1 h2 h3 h4 h5 _ _ => ?_)
  · rcases z with z | z
    · rw [hu] at z; cases z
    · omega
  · rw [← y_ne (by omega) (by omega) h2, ← y_ne (by omega) (by omega) h5]
    exact q
theorem y_pass (F : za_F G) (L : yB G A B S T r0 x0 x1 x2 x3 x9 n f) (h11 : S 11 0 0 ≤ 900) (h0 : S 0 0 0 < 9999) (K : za_O → za_H → Prop) (q : ∀ A' B' r0', zX A B A' B' → zI G A' B' (zps S 1) r0' → K (.inl (some (.int (nI (S 0 0 0 + 1))))) (zmk A' B' (zps S 1) T r0')) : za_P G mX7_pass [.ref x0, .int (nI 1)] (zmk A B S T r0) 26 8100 K := by
  rw [← L.e0]
  have h1 : (nI 1).toInt = (1 : Int) := rfl
  refine t_pass F L.1 L.V.1 (zv_2 L.V).1 h11 (by omega) _ K (fun z => absurd ⟨by omega, by omega⟩ z) (fun m a b c z => ?_) (fun m a b c _ => ?_)
  · have := y_ne (by omega) (by omega) c
    omega
  · have e := y_ne (by omega) (by omega) c
    subst e
    exact q
end YLH2
