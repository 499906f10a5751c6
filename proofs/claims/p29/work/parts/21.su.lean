/-! THE STATE (2): rows -/
theorem zc_0 (B : zB) (S : zS) (T : zT) (i j : Nat) : zcon B S T (0, i, j) = .inr (4, [.ref (B.1 0 10 0), .ref (B.1 0 11 0), .ref (B.1 0 12 0), .ref (B.1 0 13 0), .ref (B.1 0 14 0), .ref (B.1 1 i j), .int (nI (S 0 i j)), .int (nI (S 1 i j)), .int (nI (S 2 i j)), .int (nI (S 3 i j))]) := rfl
theorem zc_1 (B : zB) (S : zS) (T : zT) (i j : Nat) : zcon B S T (1, i, j) = .inr (3, [.int (nI (S 30 i j)), .int (nI (S 31 i j)), .int (z1 (S 32 i j)), .int (nI (S 33 i j)), .int (nI (S 34 i j))]) := rfl
theorem zc_2 (B : zB) (S : zS) (T : zT) (i j : Nat) : zcon B S T (2, i, j) = .inr (2, [.int (nI i), .int (nI (S 35 i j)), .int (nI (S 36 i j)), .ref (B.1 2 i j), .int (nI (S 37 i j))]) := rfl
theorem zc_3 (B : zB) (S : zS) (T : zT) (i j : Nat) : zcon B S T (3, i, j) = .inr (1, [.int (nI (S 38 i j)), .ref (B.1 3 i j), .int (nI (S 39 i j))]) := rfl
theorem zc_91 (B : zB) (S : zS) (T : zT) : zcon B S T (91, 0, 0) = .inl (.int, B.1 11 0 0, .inl (T.1 91)) := rfl
theorem zc_10 (B : zB) (S : zS) (T : zT) (i : Nat) : zcon B S T (10, i, 0) = .inr (0, [.int (B.2.2 10 i), .ref (B.1 7 10 i), .int (nI (S 10 i 0))]) := rfl
theorem zcr_10 (B : zB) (S : zS) (T : zT) (i : Nat) : zcon B S T (10, i, 1) = za_OA (B.1 8 10 i) (B.2.1 10 i) := rfl
theorem zc_11 (B : zB) (S : zS) (T : zT) (i : Nat) : zcon B S T (11, i, 0) = .inr (0, [.int (B.2.2 11 i), .ref (B.1 7 11 i), .int (nI (S 11 i 0))]) := rfl
theorem zcr_11 (B : zB) (S : zS) (T : zT) (i : Nat) : zcon B S T (11, i, 1) = za_OA (B.1 8 11 i) (B.2.1 11 i) := rfl
theorem zc_12 (B : zB) (S : zS) (T : zT) (i : Nat) : zcon B S T (12, i, 0) = .inr (0, [.int (B.2.2 12 i), .ref (B.1 7 12 i), .int (nI (S 12 i 0))]) := rfl
theorem zcr_12 (B : zB) (S : zS) (T : zT) (i : Nat) : zcon B S T (12, i, 1) = za_OA (B.1 8 12 i) (B.2.1 12 i) := rfl
theorem zc_13 (B : zB) (S : zS) (T : zT) (i : Nat) : zcon B S T (13, i, 0) = .inr (0, [.int (B.2.2 13 i), .ref (B.1 7 13 i), .int (nI (S 13 i 0))]) := rfl
theorem zcr_13 (B : zB) (S : zS) (T : zT) (i : Nat) : zcon B S T (13, i, 1) = za_OA (B.1 8 13 i) (B.2.1 13 i) := rfl
theorem zc_14 (B : zB) (S : zS) (T : zT) (i : Nat) : zcon B S T (14, i, 0) = .inr (0, [.int (B.2.2 14 i), .ref (B.1 7 14 i), .int (nI (S 14 i 0))]) := rfl
theorem zcr_14 (B : zB) (S : zS) (T : zT) (i : Nat) : zcon B S T (14, i, 1) = za_OA (B.1 8 14 i) (B.2.1 14 i) := rfl
theorem zc_15 (B : zB) (S : zS) (T : zT) (i : Nat) : zcon B S T (15, i, 0) = .inr (0, [.int (B.2.2 15 i), .ref (B.1 7 15 i), .int (nI (S 15 i 0))]) := rfl
theorem zcr_15 (B : zB) (S : zS) (T : zT) (i : Nat) : zcon B S T (15, i, 1) = za_OA (B.1 8 15 i) (B.2.1 15 i) := rfl
theorem zc_16 (B : zB) (S : zS) (T : zT) (i : Nat) : zcon B S T (16, i, 0) = .inr (0, [.int (B.2.2 16 i), .ref (B.1 7 16 i), .int (nI (S 16 i 0))]) := rfl
theorem zcr_16 (B : zB) (S : zS) (T : zT) (i : Nat) : zcon B S T (16, i, 1) = za_OA (B.1 8 16 i) (B.2.1 16 i) := rfl
theorem zc_17 (B : zB) (S : zS) (T : zT) (i : Nat) : zcon B S T (17, i, 0) = .inr (0, [.int (B.2.2 17 i), .ref (B.1 7 17 i), .int (nI (S 17 i 0))]) := rfl
theorem zcr_17 (B : zB) (S : zS) (T : zT) (i : Nat) : zcon B S T (17, i, 1) = za_OA (B.1 8 17 i) (B.2.1 17 i) := rfl
theorem zc_18 (B : zB) (S : zS) (T : zT) (i : Nat) : zcon B S T (18, i, 0) = .inr (0, [.int (B.2.2 18 i), .ref (B.1 7 18 i), .int (nI (S 18 i 0))]) := rfl
theorem zcr_18 (B : zB) (S : zS) (T : zT) (i : Nat) : zcon B S T (18, i, 1) = za_OA (B.1 8 18 i) (B.2.1 18 i) := rfl
/-- the law's rows with one another -/
def ztu (T : zT) (k : Nat) (f : Nat → Int32) : zT := (fun k' => if k' = k then f else T.1 k', T.2)
theorem ztu_s (T : zT) (k : Nat) (f : Nat → Int32) : (ztu T k f).1 k = f := if_pos rfl
theorem ztu_n (T : zT) {k k' : Nat} (f : Nat → Int32) (h : k' ≠ k) : (ztu T k f).1 k' = T.1 k' := if_neg h
theorem zM_tu (B : zB) (T : zT) {k : Nat} (f : Nat → Int32) : zMf B (ztu T k f) = zMf B T := by
  unfold zMf
  congr 1
theorem zcon_tu {B : zB} {S : zS} {T : zT} {k : Nat} {f : Nat → Int32} (h91 : k ≠ 91) {r : zQ} (h : r ≠ (31, k, 0)) : zcon B S (ztu T k f) r = zcon B S T r := by
  obtain ⟨a, i, j⟩ := r
  unfold zcon
  split
  all_goals first | rfl | (rw [zM_tu B T f]) | skip
  · rename_i e
    cases e
    unfold zar
    rw [ztu_n T f (fun x => h (by rw [x]))]
  · rw [ztu_n T f h91.symm]
/-- the law's rows stand -/
def zMo (A : zA) : Prop := zV A (31, 1, 0) ∧ zV A (31, 2, 0) ∧ zV A (31, 3, 0) ∧ zV A (91, 0, 0)
section ZMO
variable {A : zA} {B : zB} {S : zS} {T : zT} {r0 : za_H}
theorem zc_31_1 (B : zB) (S : zS) (T : zT) : zcon B S T (31, 1, 0) = .inl (.int, 48, .inl (T.1 1)) := rfl
theorem zmu_1 (hf : zF A) (hv : zV A (31, 1, 0)) (f : Nat → Int32) : za_up (zmk A B S T r0) (A.1 (31, 1, 0)) (.inl (.int, 48, .inl f)) = zmk A B S (ztu T 1 f) r0 := zmk_up hf hv (by rw [zc_31_1, ztu_s]) (fun _ n => zcon_tu (by omega) n)
theorem zc_31_2 (B : zB) (S : zS) (T : zT) : zcon B S T (31, 2, 0) = .inl (.int, 2, .inl (T.1 2)) := rfl
theorem zmu_2 (hf : zF A) (hv : zV A (31, 2, 0)) (f : Nat → Int32) : za_up (zmk A B S T r0) (A.1 (31, 2, 0)) (.inl (.int, 2, .inl f)) = zmk A B S (ztu T 2 f) r0 := zmk_up hf hv (by rw [zc_31_2, ztu_s]) (fun _ n => zcon_tu (by omega) n)
theorem zc_31_3 (B : zB) (S : zS) (T : zT) : zcon B S T (31, 3, 0) = .inl (.int, 24, .inl (T.1 3)) := rfl
theorem zmu_3 (hf : zF A) (hv : zV A (31, 3, 0)) (f : Nat → Int32) : za_up (zmk A B S T r0) (A.1 (31, 3, 0)) (.inl (.int, 24, .inl f)) = zmk A B S (ztu T 3 f) r0 := zmk_up hf hv (by rw [zc_31_3, ztu_s]) (fun _ n => zcon_tu (by omega) n)
theorem zc_31_4 (B : zB) (S : zS) (T : zT) : zcon B S T (31, 4, 0) = .inl (.int, 24, .inl (T.1 4)) := rfl
theorem zmu_4 (hf : zF A) (hv : zV A (31, 4, 0)) (f : Nat → Int32) : za_up (zmk A B S T r0) (A.1 (31, 4, 0)) (.inl (.int, 24, .inl f)) = zmk A B S (ztu T 4 f) r0 := zmk_up hf hv (by rw [zc_31_4, ztu_s]) (fun _ n => zcon_tu (by omega) n)
end ZMO
