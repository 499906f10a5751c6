/-! THE STATE (2): rows -/
theorem zc_0 (B : zB) (S : zS) (T : zT) (i j : Nat) : zcon B S T (0, i, j) = .inr (8, [.ref (B.1 0 10 0), .ref (B.1 0 11 0), .ref (B.1 0 12 0), .ref (B.1 0 13 0), .ref (B.1 0 14 0), .ref (B.1 1 i j), .int (nI (S 0 i j)), .int (nI (S 1 i j)), .int (nI (S 2 i j)), .int (nI (S 3 i j))]) := rfl
theorem zc_1 (B : zB) (S : zS) (T : zT) (i j : Nat) : zcon B S T (1, i, j) = .inr (5, [.int (nI (S 30 i j)), .int (nI (S 31 i j)), .int (z1 (S 32 i j)), .int (nI (S 33 i j)), .int (nI (S 34 i j))]) := rfl
theorem zc_2 (B : zB) (S : zS) (T : zT) (i j : Nat) : zcon B S T (2, i, j) = .inr (4, [.int (nI i), .int (nI (S 35 i j)), .int (nI (S 36 i j)), .ref (B.1 2 i j), .int (nI (S 37 i j))]) := rfl
theorem zc_3 (B : zB) (S : zS) (T : zT) (i j : Nat) : zcon B S T (3, i, j) = .inr (1, [.int (nI (S 38 i j)), .ref (B.1 3 i j), .int (nI (S 39 i j))]) := rfl
theorem zc_4 (B : zB) (S : zS) (T : zT) (i j : Nat) : zcon B S T (4, i, j) = .inr (2, [.int (nI (S 40 i j)), .int (nI (S 41 i j)), .int (nI (S 42 i j)), .int (nI (S 43 i j)), .int (nI (S 44 i j)), .int (nI (S 45 i j)), .int (nI (S 46 i j)), .int (nI i), .int (nI (S 47 i j))]) := rfl
theorem zc_5 (B : zB) (S : zS) (T : zT) (i j : Nat) : zcon B S T (5, i, j) = .inr (3, [.int (nI i), .int (nI (S 48 i j)), .int (nI (S 49 i j)), .int (nI (S 50 i j)), .ref (B.1 4 i j), .ref (B.1 5 i j), .int (nI (S 51 i j)), .int (nI (S 52 i j)), .int (nI (S 53 i j)), .int (nI (S 54 i j))]) := rfl
theorem zc_6 (B : zB) (S : zS) (T : zT) (i j : Nat) : zcon B S T (6, i, j) = .inr (6, [.ref (B.1 6 i j), .int (nI (S 55 i j)), .int (nI (S 56 i j)), .int (nI (S 57 i j)), .int (z1 (S 58 i j))]) := rfl
theorem zc_7 (B : zB) (S : zS) (T : zT) (i j : Nat) : zcon B S T (7, i, j) = .inr (7, [.int (nI (S 59 i j)), .int (nI (S 60 i j))]) := rfl
theorem zc_30 (B : zB) (S : zS) (T : zT) : zcon B S T (30, 0, 0) = .inr (9, zMf B T) := rfl
theorem zc_90 (B : zB) (S : zS) (T : zT) : zcon B S T (90, 0, 0) = .inl (.long, 1, .inr (.inl T.2)) := rfl
theorem zc_91 (B : zB) (S : zS) (T : zT) : zcon B S T (91, 0, 0) = .inl (.int, B.1 11 0 0, .inl (T.1 91)) := rfl
theorem zc_10 (B : zB) (S : zS) (T : zT) (i : Nat) : zcon B S T (10, i, 0) = .inr (0, [.int (B.2.2 10 i), .ref (B.1 7 10 i), .int (nI (S 10 i 0))]) := rfl
theorem zcr_10 (B : zB) (S : zS) (T : zT) (i : Nat) : zcon B S T (10, i, 1) = za_OA (B.1 8 10 i) (B.2.1 10 i) := rfl
theorem zc_11 (B : zB) (S : zS) (T : zT) (i : Nat) : zcon B S T (11, i, 0) = .inr (0, [.int (B.2.2 11 i), .ref (B.1 7 11 i), .int (nI (S 11 i 0))]) := rfl
theorem zcr_11 (B : zB) (S : zS) (T : zT) (i : Nat) : zcon B S T (11, i, 1) = za_OA (B.1 8 11 i) (B.2.1 11 i) := rfl
theorem zc_12 (B : zB) (S : zS) (T : zT) (i : Nat) : zcon B S T (12, i, 0) = .inr (0, [.int (B.2.2 12 i), .ref (B.1 7 12 i), .int (nI (S 12 i 0))]) := rfl
theorem zcr_12 (B : zB) (S : zS) (T : zT) (i : Nat) : zcon B S T (12, i, 1) = za_OA (B.1 8 12 i) (B.2.1 12 i) := rfl
theorem zc_13 (B : zB) (S : zS) (T : zT) (i : Nat) : zcon B S T (13, i, 0) = .inr (0, [.int (B.2.2 13 i), .ref (B.1 7 13 i), .int (nI (S 13 i 0))]) := rfl
theorem zcr_13 (B : zB) (S : zS) (T : zT) (i : Nat) : zcon B S T (13, i, 1) = za_OA (B.1 8 13 i) (B.2.1 13 i) := rfl
theorem zc_14 (B : zB) (S : zS) (T : zT) (i : Nat) : zcon B S T (14, i, 0) = .inr (0, [.int (B.2.2 14 i), .ref (B.1 7 14 i), .int (nI (S 14 i 0))]) := rfl
theorem zcr_14 (B : zB) (S : zS) (T : zT) (i : Nat) : zcon B S T (14, i, 1) = za_OA (B.1 8 14 i) (B.2.1 14 i) := rfl
theorem zc_15 (B : zB) (S : zS) (T : zT) (i : Nat) : zcon B S T (15, i, 0) = .inr (0, [.int (B.2.2 15 i), .ref (B.1 7 15 i), .int (nI (S 15 i 0))]) := rfl
theorem zcr_15 (B : zB) (S : zS) (T : zT) (i : Nat) : zcon B S T (15, i, 1) = za_OA (B.1 8 15 i) (B.2.1 15 i) := rfl
theorem zc_16 (B : zB) (S : zS) (T : zT) (i : Nat) : zcon B S T (16, i, 0) = .inr (0, [.int (B.2.2 16 i), .ref (B.1 7 16 i), .int (nI (S 16 i 0))]) := rfl
theorem zcr_16 (B : zB) (S : zS) (T : zT) (i : Nat) : zcon B S T (16, i, 1) = za_OA (B.1 8 16 i) (B.2.1 16 i) := rfl
theorem zc_17 (B : zB) (S : zS) (T : zT) (i : Nat) : zcon B S T (17, i, 0) = .inr (0, [.int (B.2.2 17 i), .ref (B.1 7 17 i), .int (nI (S 17 i 0))]) := rfl
theorem zcr_17 (B : zB) (S : zS) (T : zT) (i : Nat) : zcon B S T (17, i, 1) = za_OA (B.1 8 17 i) (B.2.1 17 i) := rfl
theorem zc_18 (B : zB) (S : zS) (T : zT) (i : Nat) : zcon B S T (18, i, 0) = .inr (0, [.int (B.2.2 18 i), .ref (B.1 7 18 i), .int (nI (S 18 i 0))]) := rfl
theorem zcr_18 (B : zB) (S : zS) (T : zT) (i : Nat) : zcon B S T (18, i, 1) = za_OA (B.1 8 18 i) (B.2.1 18 i) := rfl
theorem zM_len (B : zB) (T : zT) : (zMf B T).length = 50 := by unfold zMf; rw [List.length_map, List.length_range]
theorem zM_at (B : zB) (T : zT) {k : Nat} (h : k < 50) : za_vl (zMf B T) k = zmv B T k := by
  unfold za_vl zMf
  rw [List.getD_eq_getElem?_getD, List.getElem?_map, List.getElem?_range h]
  rfl
/-- the model's state with a field another -/
def ztu (T : zT) (k : Nat) (f : Nat → Int32) : zT := (fun k' => if k' = k then f else T.1 k', T.2)
theorem ztu_s (T : zT) (k : Nat) (f : Nat → Int32) : (ztu T k f).1 k = f := if_pos rfl
theorem ztu_n (T : zT) {k k' : Nat} (f : Nat → Int32) (h : k' ≠ k) : (ztu T k f).1 k' = T.1 k' := if_neg h
theorem ztu_2 (T : zT) (k : Nat) (f : Nat → Int32) : (ztu T k f).2 = T.2 := rfl
/-- a plain number -/
def zfc (x : Int32) : Nat → Int32 := fun _ => x
theorem zfc_e (x : Int32) (j : Nat) : zfc x j = x := rfl
theorem zM_set (B : zB) (T : zT) {k : Nat} (x : Int32) (hk : zms k = true) : (zMf B T).set k (.int x) = zMf B (ztu T k (zfc x)) := by
  refine List.ext_getElem? fun i => ?_
  unfold zMf
  rw [List.getElem?_set]
  by_cases z : k = i
  · subst z
    rw [if_pos rfl, List.length_map, List.length_range]
    by_cases y : k < 50
    · rw [if_pos y, List.getElem?_map, List.getElem?_range y]
      show _ = some (zmv B (ztu T k (zfc x)) k)
      unfold zmv
      rw [if_pos hk, ztu_s]
      rfl
    · rw [if_neg y, List.getElem?_eq_none (by rw [List.length_map, List.length_range]; omega)]
  · rw [if_neg z, List.getElem?_map, List.getElem?_map]
    by_cases y : i < 50
    · rw [List.getElem?_range y]
      show some _ = some _
      unfold zmv
      rw [ztu_n _ _ (fun x => z x.symm)]
    · rw [List.getElem?_eq_none (by rw [List.length_range]; omega)]
      rfl
theorem zM_tu (B : zB) (T : zT) {k : Nat} (f : Nat → Int32) (hk : zms k = false) : zMf B (ztu T k f) = zMf B T := by
  unfold zMf
  congr 1
  funext i
  unfold zmv
  by_cases z : i = k
  · subst z; rw [hk]; rfl
  · rw [ztu_n _ _ z]
theorem zcon_tu {B : zB} {S : zS} {T : zT} {k : Nat} {f : Nat → Int32} (hk : zms k = false) (h91 : k ≠ 91) {r : zQ} (h : r ≠ (31, k, 0)) : zcon B S (ztu T k f) r = zcon B S T r := by
  obtain ⟨a, i, j⟩ := r
  unfold zcon
  split
  all_goals first | rfl | (rw [zM_tu B T f hk]) | skip
  · rename_i e
    cases e
    unfold zar
    rw [ztu_n T f (fun x => h (by rw [x]))]
  · rw [ztu_n T f h91.symm]
theorem zcon_ts {B : zB} {S : zS} {T : zT} {k : Nat} {x : Int32} (hk : zms k = true) (h91 : k ≠ 91) {r : zQ} (h : r ≠ (30, 0, 0)) : zcon B S (ztu T k (zfc x)) r = zcon B S T r := by
  obtain ⟨a, i, j⟩ := r
  unfold zcon
  split
  all_goals first | rfl | skip
  · rename_i e; cases e; exact absurd rfl h
  · rename_i k' e
    cases e
    unfold zar
    by_cases z : i = k
    · subst z; rw [hk]
    · rw [ztu_n T _ z]
  · rw [ztu_n T _ h91.symm]
/-- the model's object and rows stand -/
def zMo (A : zA) (B : zB) : Prop := zF A ∧ zV A (30, 0, 0) ∧ ∀ k, k < 50 → zms k = false → zV A (31, k, 0) ∧ B.1 10 k 0 = A.1 (31, k, 0)
section ZMO
variable {A : zA} {B : zB} {S : zS} {T : zT} {r0 : za_H}
theorem zmo (h : zMo A B) : zmk A B S T r0 (A.1 (30, 0, 0)) = some (.inr (9, zMf B T)) := zmk_at h.2.1
theorem zml (h : zMo A B) {k : Nat} (hk : k < 50) (hs : zms k = false) {e : za_E} (he : zcon B S T (31, k, 0) = e) : zmk A B S T r0 (B.1 10 k 0) = some e := by
  rw [(h.2.2 k hk hs).2, zmk_at (h.2.2 k hk hs).1, he]
theorem zmu (h : zMo A B) {k : Nat} (hk : k < 50) (hs : zms k = false) {f : Nat → Int32} {e : za_E} (he : zcon B S (ztu T k f) (31, k, 0) = e) : za_up (zmk A B S T r0) (B.1 10 k 0) e = zmk A B S (ztu T k f) r0 := by
  rw [(h.2.2 k hk hs).2]
  exact zmk_up h.1 (h.2.2 k hk hs).1 he fun _ n => zcon_tu hs (by omega) n
theorem zmt (h : zMo A B) {k : Nat} (hk : k < 50) (hs : zms k = true) {x : Int32} : za_up (zmk A B S T r0) (A.1 (30, 0, 0)) (.inr (9, (zMf B T).set k (.int x))) = zmk A B S (ztu T k (zfc x)) r0 :=
  zmk_up h.1 h.2.1 (by rw [zM_set B T x hs]; rfl) fun _ n => zcon_ts hs (by omega) n

theorem zM_0 (B : zB) (T : zT) : za_vl (zMf B T) 0 = .int (T.1 0 0) := zM_at B T (by omega)
theorem zM_1 (B : zB) (T : zT) : za_vl (zMf B T) 1 = .int (T.1 1 0) := zM_at B T (by omega)
theorem zM_2 (B : zB) (T : zT) : za_vl (zMf B T) 2 = .ref (B.1 10 2 0) := zM_at B T (by omega)
theorem zM_3 (B : zB) (T : zT) : za_vl (zMf B T) 3 = .ref (B.1 10 3 0) := zM_at B T (by omega)
theorem zM_4 (B : zB) (T : zT) : za_vl (zMf B T) 4 = .ref (B.1 10 4 0) := zM_at B T (by omega)
theorem zM_5 (B : zB) (T : zT) : za_vl (zMf B T) 5 = .ref (B.1 10 5 0) := zM_at B T (by omega)
theorem zM_6 (B : zB) (T : zT) : za_vl (zMf B T) 6 = .int (T.1 6 0) := zM_at B T (by omega)
theorem zM_7 (B : zB) (T : zT) : za_vl (zMf B T) 7 = .ref (B.1 10 7 0) := zM_at B T (by omega)
theorem zM_8 (B : zB) (T : zT) : za_vl (zMf B T) 8 = .ref (B.1 10 8 0) := zM_at B T (by omega)
theorem zM_9 (B : zB) (T : zT) : za_vl (zMf B T) 9 = .ref (B.1 10 9 0) := zM_at B T (by omega)
theorem zM_10 (B : zB) (T : zT) : za_vl (zMf B T) 10 = .ref (B.1 10 10 0) := zM_at B T (by omega)
theorem zM_11 (B : zB) (T : zT) : za_vl (zMf B T) 11 = .ref (B.1 10 11 0) := zM_at B T (by omega)
theorem zM_12 (B : zB) (T : zT) : za_vl (zMf B T) 12 = .ref (B.1 10 12 0) := zM_at B T (by omega)
theorem zM_13 (B : zB) (T : zT) : za_vl (zMf B T) 13 = .ref (B.1 10 13 0) := zM_at B T (by omega)
theorem zM_14 (B : zB) (T : zT) : za_vl (zMf B T) 14 = .ref (B.1 10 14 0) := zM_at B T (by omega)
theorem zM_15 (B : zB) (T : zT) : za_vl (zMf B T) 15 = .ref (B.1 10 15 0) := zM_at B T (by omega)
theorem zM_16 (B : zB) (T : zT) : za_vl (zMf B T) 16 = .int (T.1 16 0) := zM_at B T (by omega)
theorem zM_17 (B : zB) (T : zT) : za_vl (zMf B T) 17 = .ref (B.1 10 17 0) := zM_at B T (by omega)
theorem zM_18 (B : zB) (T : zT) : za_vl (zMf B T) 18 = .int (T.1 18 0) := zM_at B T (by omega)
theorem zM_19 (B : zB) (T : zT) : za_vl (zMf B T) 19 = .ref (B.1 10 19 0) := zM_at B T (by omega)
theorem zM_20 (B : zB) (T : zT) : za_vl (zMf B T) 20 = .ref (B.1 10 20 0) := zM_at B T (by omega)
theorem zM_21 (B : zB) (T : zT) : za_vl (zMf B T) 21 = .ref (B.1 10 21 0) := zM_at B T (by omega)
theorem zM_22 (B : zB) (T : zT) : za_vl (zMf B T) 22 = .ref (B.1 10 22 0) := zM_at B T (by omega)
theorem zM_23 (B : zB) (T : zT) : za_vl (zMf B T) 23 = .int (T.1 23 0) := zM_at B T (by omega)
theorem zM_24 (B : zB) (T : zT) : za_vl (zMf B T) 24 = .ref (B.1 10 24 0) := zM_at B T (by omega)
theorem zM_25 (B : zB) (T : zT) : za_vl (zMf B T) 25 = .ref (B.1 10 25 0) := zM_at B T (by omega)
theorem zM_26 (B : zB) (T : zT) : za_vl (zMf B T) 26 = .ref (B.1 10 26 0) := zM_at B T (by omega)
theorem zM_27 (B : zB) (T : zT) : za_vl (zMf B T) 27 = .ref (B.1 10 27 0) := zM_at B T (by omega)
theorem zM_28 (B : zB) (T : zT) : za_vl (zMf B T) 28 = .ref (B.1 10 28 0) := zM_at B T (by omega)
theorem zM_29 (B : zB) (T : zT) : za_vl (zMf B T) 29 = .ref (B.1 10 29 0) := zM_at B T (by omega)
theorem zM_30 (B : zB) (T : zT) : za_vl (zMf B T) 30 = .ref (B.1 10 30 0) := zM_at B T (by omega)
theorem zM_31 (B : zB) (T : zT) : za_vl (zMf B T) 31 = .ref (B.1 10 31 0) := zM_at B T (by omega)
theorem zM_32 (B : zB) (T : zT) : za_vl (zMf B T) 32 = .ref (B.1 10 32 0) := zM_at B T (by omega)
theorem zM_33 (B : zB) (T : zT) : za_vl (zMf B T) 33 = .ref (B.1 10 33 0) := zM_at B T (by omega)
theorem zM_34 (B : zB) (T : zT) : za_vl (zMf B T) 34 = .int (T.1 34 0) := zM_at B T (by omega)
theorem zM_35 (B : zB) (T : zT) : za_vl (zMf B T) 35 = .ref (B.1 10 35 0) := zM_at B T (by omega)
theorem zM_36 (B : zB) (T : zT) : za_vl (zMf B T) 36 = .ref (B.1 10 36 0) := zM_at B T (by omega)
theorem zM_37 (B : zB) (T : zT) : za_vl (zMf B T) 37 = .ref (B.1 10 37 0) := zM_at B T (by omega)
theorem zM_38 (B : zB) (T : zT) : za_vl (zMf B T) 38 = .ref (B.1 10 38 0) := zM_at B T (by omega)
theorem zM_39 (B : zB) (T : zT) : za_vl (zMf B T) 39 = .ref (B.1 10 39 0) := zM_at B T (by omega)
theorem zM_40 (B : zB) (T : zT) : za_vl (zMf B T) 40 = .ref (B.1 10 40 0) := zM_at B T (by omega)
theorem zM_41 (B : zB) (T : zT) : za_vl (zMf B T) 41 = .ref (B.1 10 41 0) := zM_at B T (by omega)
theorem zM_42 (B : zB) (T : zT) : za_vl (zMf B T) 42 = .ref (B.1 10 42 0) := zM_at B T (by omega)
theorem zM_43 (B : zB) (T : zT) : za_vl (zMf B T) 43 = .ref (B.1 10 43 0) := zM_at B T (by omega)
theorem zM_44 (B : zB) (T : zT) : za_vl (zMf B T) 44 = .ref (B.1 10 44 0) := zM_at B T (by omega)
theorem zM_45 (B : zB) (T : zT) : za_vl (zMf B T) 45 = .int (T.1 45 0) := zM_at B T (by omega)
theorem zM_46 (B : zB) (T : zT) : za_vl (zMf B T) 46 = .ref (B.1 10 46 0) := zM_at B T (by omega)
theorem zM_47 (B : zB) (T : zT) : za_vl (zMf B T) 47 = .ref (B.1 10 47 0) := zM_at B T (by omega)
theorem zM_48 (B : zB) (T : zT) : za_vl (zMf B T) 48 = .ref (B.1 10 48 0) := zM_at B T (by omega)
theorem zM_49 (B : zB) (T : zT) : za_vl (zMf B T) 49 = .int (T.1 49 0) := zM_at B T (by omega)
theorem zc_31_2 (B : zB) (S : zS) (T : zT) : zcon B S T (31, 2, 0) = .inl (.int, 10, .inl (T.1 2)) := rfl
theorem zc_31_3 (B : zB) (S : zS) (T : zT) : zcon B S T (31, 3, 0) = .inl (.int, 10, .inl (T.1 3)) := rfl
theorem zc_31_4 (B : zB) (S : zS) (T : zT) : zcon B S T (31, 4, 0) = .inl (.int, 10, .inl (T.1 4)) := rfl
theorem zc_31_5 (B : zB) (S : zS) (T : zT) : zcon B S T (31, 5, 0) = .inl (.boolean, 10, .inl (T.1 5)) := rfl
theorem zc_31_7 (B : zB) (S : zS) (T : zT) : zcon B S T (31, 7, 0) = .inl (.int, 24, .inl (T.1 7)) := rfl
theorem zc_31_8 (B : zB) (S : zS) (T : zT) : zcon B S T (31, 8, 0) = .inl (.int, 24, .inl (T.1 8)) := rfl
theorem zc_31_9 (B : zB) (S : zS) (T : zT) : zcon B S T (31, 9, 0) = .inl (.boolean, 24, .inl (T.1 9)) := rfl
theorem zc_31_10 (B : zB) (S : zS) (T : zT) : zcon B S T (31, 10, 0) = .inl (.boolean, 24, .inl (T.1 10)) := rfl
theorem zc_31_11 (B : zB) (S : zS) (T : zT) : zcon B S T (31, 11, 0) = .inl (.int, 24, .inl (T.1 11)) := rfl
theorem zc_31_12 (B : zB) (S : zS) (T : zT) : zcon B S T (31, 12, 0) = .inl (.int, 240, .inl (T.1 12)) := rfl
theorem zc_31_13 (B : zB) (S : zS) (T : zT) : zcon B S T (31, 13, 0) = .inl (.int, 240, .inl (T.1 13)) := rfl
theorem zc_31_14 (B : zB) (S : zS) (T : zT) : zcon B S T (31, 14, 0) = .inl (.int, 240, .inl (T.1 14)) := rfl
theorem zc_31_15 (B : zB) (S : zS) (T : zT) : zcon B S T (31, 15, 0) = .inl (.boolean, 240, .inl (T.1 15)) := rfl
theorem zc_31_17 (B : zB) (S : zS) (T : zT) : zcon B S T (31, 17, 0) = .inl (.int, 800, .inl (T.1 17)) := rfl
theorem zc_31_19 (B : zB) (S : zS) (T : zT) : zcon B S T (31, 19, 0) = .inl (.int, 6, .inl (T.1 19)) := rfl
theorem zc_31_20 (B : zB) (S : zS) (T : zT) : zcon B S T (31, 20, 0) = .inl (.int, 6, .inl (T.1 20)) := rfl
theorem zc_31_21 (B : zB) (S : zS) (T : zT) : zcon B S T (31, 21, 0) = .inl (.int, 6, .inl (T.1 21)) := rfl
theorem zc_31_22 (B : zB) (S : zS) (T : zT) : zcon B S T (31, 22, 0) = .inl (.int, 144, .inl (T.1 22)) := rfl
theorem zc_31_24 (B : zB) (S : zS) (T : zT) : zcon B S T (31, 24, 0) = .inl (.int, 8, .inl (T.1 24)) := rfl
theorem zc_31_25 (B : zB) (S : zS) (T : zT) : zcon B S T (31, 25, 0) = .inl (.int, 8, .inl (T.1 25)) := rfl
theorem zc_31_26 (B : zB) (S : zS) (T : zT) : zcon B S T (31, 26, 0) = .inl (.int, 8, .inl (T.1 26)) := rfl
theorem zc_31_27 (B : zB) (S : zS) (T : zT) : zcon B S T (31, 27, 0) = .inl (.int, 8, .inl (T.1 27)) := rfl
theorem zc_31_28 (B : zB) (S : zS) (T : zT) : zcon B S T (31, 28, 0) = .inl (.int, 8, .inl (T.1 28)) := rfl
theorem zc_31_29 (B : zB) (S : zS) (T : zT) : zcon B S T (31, 29, 0) = .inl (.int, 8, .inl (T.1 29)) := rfl
theorem zc_31_30 (B : zB) (S : zS) (T : zT) : zcon B S T (31, 30, 0) = .inl (.int, 8, .inl (T.1 30)) := rfl
theorem zc_31_31 (B : zB) (S : zS) (T : zT) : zcon B S T (31, 31, 0) = .inl (.int, 8, .inl (T.1 31)) := rfl
theorem zc_31_32 (B : zB) (S : zS) (T : zT) : zcon B S T (31, 32, 0) = .inl (.boolean, 10, .inl (T.1 32)) := rfl
theorem zc_31_33 (B : zB) (S : zS) (T : zT) : zcon B S T (31, 33, 0) = .inl (.boolean, 2400, .inl (T.1 33)) := rfl
theorem zc_31_35 (B : zB) (S : zS) (T : zT) : zcon B S T (31, 35, 0) = .inl (.int, 60, .inl (T.1 35)) := rfl
theorem zc_31_36 (B : zB) (S : zS) (T : zT) : zcon B S T (31, 36, 0) = .inl (.int, 60, .inl (T.1 36)) := rfl
theorem zc_31_37 (B : zB) (S : zS) (T : zT) : zcon B S T (31, 37, 0) = .inl (.int, 60, .inl (T.1 37)) := rfl
theorem zc_31_38 (B : zB) (S : zS) (T : zT) : zcon B S T (31, 38, 0) = .inl (.int, 60, .inl (T.1 38)) := rfl
theorem zc_31_39 (B : zB) (S : zS) (T : zT) : zcon B S T (31, 39, 0) = .inl (.int, 60, .inl (T.1 39)) := rfl
theorem zc_31_40 (B : zB) (S : zS) (T : zT) : zcon B S T (31, 40, 0) = .inl (.int, 600, .inl (T.1 40)) := rfl
theorem zc_31_41 (B : zB) (S : zS) (T : zT) : zcon B S T (31, 41, 0) = .inl (.int, 600, .inl (T.1 41)) := rfl
theorem zc_31_42 (B : zB) (S : zS) (T : zT) : zcon B S T (31, 42, 0) = .inl (.int, 60, .inl (T.1 42)) := rfl
theorem zc_31_43 (B : zB) (S : zS) (T : zT) : zcon B S T (31, 43, 0) = .inl (.boolean, 600000, .inl (T.1 43)) := rfl
theorem zc_31_44 (B : zB) (S : zS) (T : zT) : zcon B S T (31, 44, 0) = .inl (.boolean, 60, .inl (T.1 44)) := rfl
theorem zc_31_46 (B : zB) (S : zS) (T : zT) : zcon B S T (31, 46, 0) = .inl (.int, 200, .inl (T.1 46)) := rfl
theorem zc_31_47 (B : zB) (S : zS) (T : zT) : zcon B S T (31, 47, 0) = .inl (.int, 200, .inl (T.1 47)) := rfl
theorem zc_31_48 (B : zB) (S : zS) (T : zT) : zcon B S T (31, 48, 0) = .inl (.int, 200, .inl (T.1 48)) := rfl
theorem zmt_0 (h : zMo A B) (x : Int32) : za_up (zmk A B S T r0) (A.1 (30, 0, 0)) (.inr (9, (zMf B T).set 0 (.int x))) = zmk A B S (ztu T 0 (zfc x)) r0 := zmt h (by omega) rfl
theorem zmt_1 (h : zMo A B) (x : Int32) : za_up (zmk A B S T r0) (A.1 (30, 0, 0)) (.inr (9, (zMf B T).set 1 (.int x))) = zmk A B S (ztu T 1 (zfc x)) r0 := zmt h (by omega) rfl
theorem zml_2 (h : zMo A B) : zmk A B S T r0 (B.1 10 2 0) = some (.inl (.int, 10, .inl (T.1 2))) := zml h (by omega) rfl rfl
theorem zmu_2 (h : zMo A B) (f : Nat → Int32) : za_up (zmk A B S T r0) (B.1 10 2 0) (.inl (.int, 10, .inl f)) = zmk A B S (ztu T 2 f) r0 := zmu h (by omega) rfl (by rw [zc_31_2, ztu_s])
theorem zml_3 (h : zMo A B) : zmk A B S T r0 (B.1 10 3 0) = some (.inl (.int, 10, .inl (T.1 3))) := zml h (by omega) rfl rfl
theorem zmu_3 (h : zMo A B) (f : Nat → Int32) : za_up (zmk A B S T r0) (B.1 10 3 0) (.inl (.int, 10, .inl f)) = zmk A B S (ztu T 3 f) r0 := zmu h (by omega) rfl (by rw [zc_31_3, ztu_s])
theorem zml_4 (h : zMo A B) : zmk A B S T r0 (B.1 10 4 0) = some (.inl (.int, 10, .inl (T.1 4))) := zml h (by omega) rfl rfl
theorem zmu_4 (h : zMo A B) (f : Nat → Int32) : za_up (zmk A B S T r0) (B.1 10 4 0) (.inl (.int, 10, .inl f)) = zmk A B S (ztu T 4 f) r0 := zmu h (by omega) rfl (by rw [zc_31_4, ztu_s])
theorem zml_5 (h : zMo A B) : zmk A B S T r0 (B.1 10 5 0) = some (.inl (.boolean, 10, .inl (T.1 5))) := zml h (by omega) rfl rfl
theorem zmu_5 (h : zMo A B) (f : Nat → Int32) : za_up (zmk A B S T r0) (B.1 10 5 0) (.inl (.boolean, 10, .inl f)) = zmk A B S (ztu T 5 f) r0 := zmu h (by omega) rfl (by rw [zc_31_5, ztu_s])
theorem zmt_6 (h : zMo A B) (x : Int32) : za_up (zmk A B S T r0) (A.1 (30, 0, 0)) (.inr (9, (zMf B T).set 6 (.int x))) = zmk A B S (ztu T 6 (zfc x)) r0 := zmt h (by omega) rfl
theorem zml_7 (h : zMo A B) : zmk A B S T r0 (B.1 10 7 0) = some (.inl (.int, 24, .inl (T.1 7))) := zml h (by omega) rfl rfl
theorem zmu_7 (h : zMo A B) (f : Nat → Int32) : za_up (zmk A B S T r0) (B.1 10 7 0) (.inl (.int, 24, .inl f)) = zmk A B S (ztu T 7 f) r0 := zmu h (by omega) rfl (by rw [zc_31_7, ztu_s])
theorem zml_8 (h : zMo A B) : zmk A B S T r0 (B.1 10 8 0) = some (.inl (.int, 24, .inl (T.1 8))) := zml h (by omega) rfl rfl
theorem zmu_8 (h : zMo A B) (f : Nat → Int32) : za_up (zmk A B S T r0) (B.1 10 8 0) (.inl (.int, 24, .inl f)) = zmk A B S (ztu T 8 f) r0 := zmu h (by omega) rfl (by rw [zc_31_8, ztu_s])
theorem zml_9 (h : zMo A B) : zmk A B S T r0 (B.1 10 9 0) = some (.inl (.boolean, 24, .inl (T.1 9))) := zml h (by omega) rfl rfl
theorem zmu_9 (h : zMo A B) (f : Nat → Int32) : za_up (zmk A B S T r0) (B.1 10 9 0) (.inl (.boolean, 24, .inl f)) = zmk A B S (ztu T 9 f) r0 := zmu h (by omega) rfl (by rw [zc_31_9, ztu_s])
theorem zml_10 (h : zMo A B) : zmk A B S T r0 (B.1 10 10 0) = some (.inl (.boolean, 24, .inl (T.1 10))) := zml h (by omega) rfl rfl
theorem zmu_10 (h : zMo A B) (f : Nat → Int32) : za_up (zmk A B S T r0) (B.1 10 10 0) (.inl (.boolean, 24, .inl f)) = zmk A B S (ztu T 10 f) r0 := zmu h (by omega) rfl (by rw [zc_31_10, ztu_s])
theorem zml_11 (h : zMo A B) : zmk A B S T r0 (B.1 10 11 0) = some (.inl (.int, 24, .inl (T.1 11))) := zml h (by omega) rfl rfl
theorem zmu_11 (h : zMo A B) (f : Nat → Int32) : za_up (zmk A B S T r0) (B.1 10 11 0) (.inl (.int, 24, .inl f)) = zmk A B S (ztu T 11 f) r0 := zmu h (by omega) rfl (by rw [zc_31_11, ztu_s])
theorem zml_12 (h : zMo A B) : zmk A B S T r0 (B.1 10 12 0) = some (.inl (.int, 240, .inl (T.1 12))) := zml h (by omega) rfl rfl
theorem zmu_12 (h : zMo A B) (f : Nat → Int32) : za_up (zmk A B S T r0) (B.1 10 12 0) (.inl (.int, 240, .inl f)) = zmk A B S (ztu T 12 f) r0 := zmu h (by omega) rfl (by rw [zc_31_12, ztu_s])
theorem zml_13 (h : zMo A B) : zmk A B S T r0 (B.1 10 13 0) = some (.inl (.int, 240, .inl (T.1 13))) := zml h (by omega) rfl rfl
theorem zmu_13 (h : zMo A B) (f : Nat → Int32) : za_up (zmk A B S T r0) (B.1 10 13 0) (.inl (.int, 240, .inl f)) = zmk A B S (ztu T 13 f) r0 := zmu h (by omega) rfl (by rw [zc_31_13, ztu_s])
theorem zml_14 (h : zMo A B) : zmk A B S T r0 (B.1 10 14 0) = some (.inl (.int, 240, .inl (T.1 14))) := zml h (by omega) rfl rfl
theorem zmu_14 (h : zMo A B) (f : Nat → Int32) : za_up (zmk A B S T r0) (B.1 10 14 0) (.inl (.int, 240, .inl f)) = zmk A B S (ztu T 14 f) r0 := zmu h (by omega) rfl (by rw [zc_31_14, ztu_s])
theorem zml_15 (h : zMo A B) : zmk A B S T r0 (B.1 10 15 0) = some (.inl (.boolean, 240, .inl (T.1 15))) := zml h (by omega) rfl rfl
theorem zmu_15 (h : zMo A B) (f : Nat → Int32) : za_up (zmk A B S T r0) (B.1 10 15 0) (.inl (.boolean, 240, .inl f)) = zmk A B S (ztu T 15 f) r0 := zmu h (by omega) rfl (by rw [zc_31_15, ztu_s])
theorem zmt_16 (h : zMo A B) (x : Int32) : za_up (zmk A B S T r0) (A.1 (30, 0, 0)) (.inr (9, (zMf B T).set 16 (.int x))) = zmk A B S (ztu T 16 (zfc x)) r0 := zmt h (by omega) rfl
theorem zml_17 (h : zMo A B) : zmk A B S T r0 (B.1 10 17 0) = some (.inl (.int, 800, .inl (T.1 17))) := zml h (by omega) rfl rfl
theorem zmu_17 (h : zMo A B) (f : Nat → Int32) : za_up (zmk A B S T r0) (B.1 10 17 0) (.inl (.int, 800, .inl f)) = zmk A B S (ztu T 17 f) r0 := zmu h (by omega) rfl (by rw [zc_31_17, ztu_s])
theorem zmt_18 (h : zMo A B) (x : Int32) : za_up (zmk A B S T r0) (A.1 (30, 0, 0)) (.inr (9, (zMf B T).set 18 (.int x))) = zmk A B S (ztu T 18 (zfc x)) r0 := zmt h (by omega) rfl
theorem zml_19 (h : zMo A B) : zmk A B S T r0 (B.1 10 19 0) = some (.inl (.int, 6, .inl (T.1 19))) := zml h (by omega) rfl rfl
theorem zmu_19 (h : zMo A B) (f : Nat → Int32) : za_up (zmk A B S T r0) (B.1 10 19 0) (.inl (.int, 6, .inl f)) = zmk A B S (ztu T 19 f) r0 := zmu h (by omega) rfl (by rw [zc_31_19, ztu_s])
theorem zml_20 (h : zMo A B) : zmk A B S T r0 (B.1 10 20 0) = some (.inl (.int, 6, .inl (T.1 20))) := zml h (by omega) rfl rfl
theorem zmu_20 (h : zMo A B) (f : Nat → Int32) : za_up (zmk A B S T r0) (B.1 10 20 0) (.inl (.int, 6, .inl f)) = zmk A B S (ztu T 20 f) r0 := zmu h (by omega) rfl (by rw [zc_31_20, ztu_s])
theorem zml_21 (h : zMo A B) : zmk A B S T r0 (B.1 10 21 0) = some (.inl (.int, 6, .inl (T.1 21))) := zml h (by omega) rfl rfl
theorem zmu_21 (h : zMo A B) (f : Nat → Int32) : za_up (zmk A B S T r0) (B.1 10 21 0) (.inl (.int, 6, .inl f)) = zmk A B S (ztu T 21 f) r0 := zmu h (by omega) rfl (by rw [zc_31_21, ztu_s])
theorem zml_22 (h : zMo A B) : zmk A B S T r0 (B.1 10 22 0) = some (.inl (.int, 144, .inl (T.1 22))) := zml h (by omega) rfl rfl
theorem zmu_22 (h : zMo A B) (f : Nat → Int32) : za_up (zmk A B S T r0) (B.1 10 22 0) (.inl (.int, 144, .inl f)) = zmk A B S (ztu T 22 f) r0 := zmu h (by omega) rfl (by rw [zc_31_22, ztu_s])
theorem zmt_23 (h : zMo A B) (x : Int32) : za_up (zmk A B S T r0) (A.1 (30, 0, 0)) (.inr (9, (zMf B T).set 23 (.int x))) = zmk A B S (ztu T 23 (zfc x)) r0 := zmt h (by omega) rfl
theorem zml_24 (h : zMo A B) : zmk A B S T r0 (B.1 10 24 0) = some (.inl (.int, 8, .inl (T.1 24))) := zml h (by omega) rfl rfl
theorem zmu_24 (h : zMo A B) (f : Nat → Int32) : za_up (zmk A B S T r0) (B.1 10 24 0) (.inl (.int, 8, .inl f)) = zmk A B S (ztu T 24 f) r0 := zmu h (by omega) rfl (by rw [zc_31_24, ztu_s])
theorem zml_25 (h : zMo A B) : zmk A B S T r0 (B.1 10 25 0) = some (.inl (.int, 8, .inl (T.1 25))) := zml h (by omega) rfl rfl
theorem zmu_25 (h : zMo A B) (f : Nat → Int32) : za_up (zmk A B S T r0) (B.1 10 25 0) (.inl (.int, 8, .inl f)) = zmk A B S (ztu T 25 f) r0 := zmu h (by omega) rfl (by rw [zc_31_25, ztu_s])
theorem zml_26 (h : zMo A B) : zmk A B S T r0 (B.1 10 26 0) = some (.inl (.int, 8, .inl (T.1 26))) := zml h (by omega) rfl rfl
theorem zmu_26 (h : zMo A B) (f : Nat → Int32) : za_up (zmk A B S T r0) (B.1 10 26 0) (.inl (.int, 8, .inl f)) = zmk A B S (ztu T 26 f) r0 := zmu h (by omega) rfl (by rw [zc_31_26, ztu_s])
theorem zml_27 (h : zMo A B) : zmk A B S T r0 (B.1 10 27 0) = some (.inl (.int, 8, .inl (T.1 27))) := zml h (by omega) rfl rfl
theorem zmu_27 (h : zMo A B) (f : Nat → Int32) : za_up (zmk A B S T r0) (B.1 10 27 0) (.inl (.int, 8, .inl f)) = zmk A B S (ztu T 27 f) r0 := zmu h (by omega) rfl (by rw [zc_31_27, ztu_s])
theorem zml_28 (h : zMo A B) : zmk A B S T r0 (B.1 10 28 0) = some (.inl (.int, 8, .inl (T.1 28))) := zml h (by omega) rfl rfl
theorem zmu_28 (h : zMo A B) (f : Nat → Int32) : za_up (zmk A B S T r0) (B.1 10 28 0) (.inl (.int, 8, .inl f)) = zmk A B S (ztu T 28 f) r0 := zmu h (by omega) rfl (by rw [zc_31_28, ztu_s])
theorem zml_29 (h : zMo A B) : zmk A B S T r0 (B.1 10 29 0) = some (.inl (.int, 8, .inl (T.1 29))) := zml h (by omega) rfl rfl
theorem zmu_29 (h : zMo A B) (f : Nat → Int32) : za_up (zmk A B S T r0) (B.1 10 29 0) (.inl (.int, 8, .inl f)) = zmk A B S (ztu T 29 f) r0 := zmu h (by omega) rfl (by rw [zc_31_29, ztu_s])
theorem zml_30 (h : zMo A B) : zmk A B S T r0 (B.1 10 30 0) = some (.inl (.int, 8, .inl (T.1 30))) := zml h (by omega) rfl rfl
theorem zmu_30 (h : zMo A B) (f : Nat → Int32) : za_up (zmk A B S T r0) (B.1 10 30 0) (.inl (.int, 8, .inl f)) = zmk A B S (ztu T 30 f) r0 := zmu h (by omega) rfl (by rw [zc_31_30, ztu_s])
theorem zml_31 (h : zMo A B) : zmk A B S T r0 (B.1 10 31 0) = some (.inl (.int, 8, .inl (T.1 31))) := zml h (by omega) rfl rfl
theorem zmu_31 (h : zMo A B) (f : Nat → Int32) : za_up (zmk A B S T r0) (B.1 10 31 0) (.inl (.int, 8, .inl f)) = zmk A B S (ztu T 31 f) r0 := zmu h (by omega) rfl (by rw [zc_31_31, ztu_s])
theorem zml_32 (h : zMo A B) : zmk A B S T r0 (B.1 10 32 0) = some (.inl (.boolean, 10, .inl (T.1 32))) := zml h (by omega) rfl rfl
theorem zmu_32 (h : zMo A B) (f : Nat → Int32) : za_up (zmk A B S T r0) (B.1 10 32 0) (.inl (.boolean, 10, .inl f)) = zmk A B S (ztu T 32 f) r0 := zmu h (by omega) rfl (by rw [zc_31_32, ztu_s])
theorem zml_33 (h : zMo A B) : zmk A B S T r0 (B.1 10 33 0) = some (.inl (.boolean, 2400, .inl (T.1 33))) := zml h (by omega) rfl rfl
theorem zmu_33 (h : zMo A B) (f : Nat → Int32) : za_up (zmk A B S T r0) (B.1 10 33 0) (.inl (.boolean, 2400, .inl f)) = zmk A B S (ztu T 33 f) r0 := zmu h (by omega) rfl (by rw [zc_31_33, ztu_s])
theorem zmt_34 (h : zMo A B) (x : Int32) : za_up (zmk A B S T r0) (A.1 (30, 0, 0)) (.inr (9, (zMf B T).set 34 (.int x))) = zmk A B S (ztu T 34 (zfc x)) r0 := zmt h (by omega) rfl
theorem zml_35 (h : zMo A B) : zmk A B S T r0 (B.1 10 35 0) = some (.inl (.int, 60, .inl (T.1 35))) := zml h (by omega) rfl rfl
theorem zmu_35 (h : zMo A B) (f : Nat → Int32) : za_up (zmk A B S T r0) (B.1 10 35 0) (.inl (.int, 60, .inl f)) = zmk A B S (ztu T 35 f) r0 := zmu h (by omega) rfl (by rw [zc_31_35, ztu_s])
theorem zml_36 (h : zMo A B) : zmk A B S T r0 (B.1 10 36 0) = some (.inl (.int, 60, .inl (T.1 36))) := zml h (by omega) rfl rfl
theorem zmu_36 (h : zMo A B) (f : Nat → Int32) : za_up (zmk A B S T r0) (B.1 10 36 0) (.inl (.int, 60, .inl f)) = zmk A B S (ztu T 36 f) r0 := zmu h (by omega) rfl (by rw [zc_31_36, ztu_s])
theorem zml_37 (h : zMo A B) : zmk A B S T r0 (B.1 10 37 0) = some (.inl (.int, 60, .inl (T.1 37))) := zml h (by omega) rfl rfl
theorem zmu_37 (h : zMo A B) (f : Nat → Int32) : za_up (zmk A B S T r0) (B.1 10 37 0) (.inl (.int, 60, .inl f)) = zmk A B S (ztu T 37 f) r0 := zmu h (by omega) rfl (by rw [zc_31_37, ztu_s])
theorem zml_38 (h : zMo A B) : zmk A B S T r0 (B.1 10 38 0) = some (.inl (.int, 60, .inl (T.1 38))) := zml h (by omega) rfl rfl
theorem zmu_38 (h : zMo A B) (f : Nat → Int32) : za_up (zmk A B S T r0) (B.1 10 38 0) (.inl (.int, 60, .inl f)) = zmk A B S (ztu T 38 f) r0 := zmu h (by omega) rfl (by rw [zc_31_38, ztu_s])
theorem zml_39 (h : zMo A B) : zmk A B S T r0 (B.1 10 39 0) = some (.inl (.int, 60, .inl (T.1 39))) := zml h (by omega) rfl rfl
theorem zmu_39 (h : zMo A B) (f : Nat → Int32) : za_up (zmk A B S T r0) (B.1 10 39 0) (.inl (.int, 60, .inl f)) = zmk A B S (ztu T 39 f) r0 := zmu h (by omega) rfl (by rw [zc_31_39, ztu_s])
theorem zml_40 (h : zMo A B) : zmk A B S T r0 (B.1 10 40 0) = some (.inl (.int, 600, .inl (T.1 40))) := zml h (by omega) rfl rfl
theorem zmu_40 (h : zMo A B) (f : Nat → Int32) : za_up (zmk A B S T r0) (B.1 10 40 0) (.inl (.int, 600, .inl f)) = zmk A B S (ztu T 40 f) r0 := zmu h (by omega) rfl (by rw [zc_31_40, ztu_s])
theorem zml_41 (h : zMo A B) : zmk A B S T r0 (B.1 10 41 0) = some (.inl (.int, 600, .inl (T.1 41))) := zml h (by omega) rfl rfl
theorem zmu_41 (h : zMo A B) (f : Nat → Int32) : za_up (zmk A B S T r0) (B.1 10 41 0) (.inl (.int, 600, .inl f)) = zmk A B S (ztu T 41 f) r0 := zmu h (by omega) rfl (by rw [zc_31_41, ztu_s])
theorem zml_42 (h : zMo A B) : zmk A B S T r0 (B.1 10 42 0) = some (.inl (.int, 60, .inl (T.1 42))) := zml h (by omega) rfl rfl
theorem zmu_42 (h : zMo A B) (f : Nat → Int32) : za_up (zmk A B S T r0) (B.1 10 42 0) (.inl (.int, 60, .inl f)) = zmk A B S (ztu T 42 f) r0 := zmu h (by omega) rfl (by rw [zc_31_42, ztu_s])
theorem zml_43 (h : zMo A B) : zmk A B S T r0 (B.1 10 43 0) = some (.inl (.boolean, 600000, .inl (T.1 43))) := zml h (by omega) rfl rfl
theorem zmu_43 (h : zMo A B) (f : Nat → Int32) : za_up (zmk A B S T r0) (B.1 10 43 0) (.inl (.boolean, 600000, .inl f)) = zmk A B S (ztu T 43 f) r0 := zmu h (by omega) rfl (by rw [zc_31_43, ztu_s])
theorem zml_44 (h : zMo A B) : zmk A B S T r0 (B.1 10 44 0) = some (.inl (.boolean, 60, .inl (T.1 44))) := zml h (by omega) rfl rfl
theorem zmu_44 (h : zMo A B) (f : Nat → Int32) : za_up (zmk A B S T r0) (B.1 10 44 0) (.inl (.boolean, 60, .inl f)) = zmk A B S (ztu T 44 f) r0 := zmu h (by omega) rfl (by rw [zc_31_44, ztu_s])
theorem zmt_45 (h : zMo A B) (x : Int32) : za_up (zmk A B S T r0) (A.1 (30, 0, 0)) (.inr (9, (zMf B T).set 45 (.int x))) = zmk A B S (ztu T 45 (zfc x)) r0 := zmt h (by omega) rfl
theorem zml_46 (h : zMo A B) : zmk A B S T r0 (B.1 10 46 0) = some (.inl (.int, 200, .inl (T.1 46))) := zml h (by omega) rfl rfl
theorem zmu_46 (h : zMo A B) (f : Nat → Int32) : za_up (zmk A B S T r0) (B.1 10 46 0) (.inl (.int, 200, .inl f)) = zmk A B S (ztu T 46 f) r0 := zmu h (by omega) rfl (by rw [zc_31_46, ztu_s])
theorem zml_47 (h : zMo A B) : zmk A B S T r0 (B.1 10 47 0) = some (.inl (.int, 200, .inl (T.1 47))) := zml h (by omega) rfl rfl
theorem zmu_47 (h : zMo A B) (f : Nat → Int32) : za_up (zmk A B S T r0) (B.1 10 47 0) (.inl (.int, 200, .inl f)) = zmk A B S (ztu T 47 f) r0 := zmu h (by omega) rfl (by rw [zc_31_47, ztu_s])
theorem zml_48 (h : zMo A B) : zmk A B S T r0 (B.1 10 48 0) = some (.inl (.int, 200, .inl (T.1 48))) := zml h (by omega) rfl rfl
theorem zmu_48 (h : zMo A B) (f : Nat → Int32) : za_up (zmk A B S T r0) (B.1 10 48 0) (.inl (.int, 200, .inl f)) = zmk A B S (ztu T 48 f) r0 := zmu h (by omega) rfl (by rw [zc_31_48, ztu_s])
theorem zmt_49 (h : zMo A B) (x : Int32) : za_up (zmk A B S T r0) (A.1 (30, 0, 0)) (.inr (9, (zMf B T).set 49 (.int x))) = zmk A B S (ztu T 49 (zfc x)) r0 := zmt h (by omega) rfl
end ZMO
