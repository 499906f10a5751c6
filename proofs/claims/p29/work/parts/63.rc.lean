/-! THE INVARIANT (1) -/
/-- the seconds of piece k of d -/
def zpq (S : zS) (d k : Nat) : Nat := if S 58 d k = 0 then S 31 (S 49 d 0) (S 55 d k) else S 42 (S 58 d k - 1) 0
/-- the first second of piece k -/
def zso (S : zS) (d : Nat) : Nat → Nat
  | 0 => 0
  | k + 1 => zso S d k + zpq S d k
/-- how many of the first seconds are loaded -/
def zlc (S : zS) (d : Nat) : Nat → Nat
  | 0 => 0
  | s + 1 => zlc S d s + (if zld S d s (S 18 d 0) = true then 1 else 0)
section ZVV
variable {S S' : zS}
theorem zso_S (h58 : S' 58 = S 58) (h31 : S' 31 = S 31) (h49 : S' 49 = S 49) (h55 : S' 55 = S 55) (h42 : S' 42 = S 42) (d k : Nat) : zso S' d k = zso S d k := by
  induction k with
  | zero => rfl
  | succ k ih => unfold zso zpq; rw [ih, h58, h31, h49, h55, h42]
theorem zlc_S (h18 : S' 18 = S 18) (h59 : S' 59 = S 59) (h60 : S' 60 = S 60) (d s : Nat) : zlc S' d s = zlc S d s := by
  induction s with
  | zero => rfl
  | succ s ih => unfold zlc; rw [ih, zld_S h59 h60, h18]
theorem zunc_S (h33 : S' 33 = S 33) (i n : Nat) : zunc S' i n = zunc S i n := by
  induction n with
  | zero => rfl
  | succ n ih => unfold zunc; rw [ih, h33]
theorem zout_S (h30 : S' 30 = S 30) (h1 : S' 1 = S 1) (h32 : S' 32 = S 32) (i j : Nat) : zout S' i j = zout S i j := by
  unfold zout; rw [h30, h1, h32]
end ZVV
def zv (S : zS) : Nat → Prop
  | 1 => S 0 0 0 ≤ 9999 ∧ S 1 0 0 < 1024 ∧ S 2 0 0 < 1024 ∧ S 3 0 0 ≤ 200
  | 2 => S 10 0 0 ≤ 24 ∧ S 12 0 0 ≤ 6 ∧ S 13 0 0 ≤ 8 ∧ S 14 0 0 ≤ 60 ∧ S 19 0 0 = S 14 0 0
  | 3 => ∀ i, i ≤ S 10 0 0 → S 15 i 0 ≤ 10
  | 4 => ∀ i j, i ≤ S 10 0 0 → j < S 15 i 0 → S 30 i j ≤ 2 ∧ (S 30 i j = 1 → 1 ≤ S 32 i j ∧ S 32 i j ≤ 10) ∧ (S 30 i j = 2 → 1 ≤ S 32 i j) ∧ S 33 i j ≤ 1 ∧ S 34 i j < 1024
  | 5 => ∀ i j, S 31 i j ≤ 999
  | 6 => ∀ i, i < S 10 0 0 → S 36 i 0 ≤ 9999 ∧ S 37 i 0 ≤ 1
  | 7 => ∀ i j, i < S 10 0 0 → j < S 15 i 0 → S 33 i j = 0 → zout S i j = false
  | 8 => ∀ i, i < S 10 0 0 → zunc S i (S 15 i 0) = 0 → S 37 i 0 = 1
  | 9 => ∀ j, j < S 15 (S 10 0 0) 0 → S 33 (S 10 0 0) j = 0 ∧ S 34 (S 10 0 0) j = 0
  | 10 => ∀ j, j < S 11 0 0 → S 20 j 0 < S 10 0 0
  | 11 => ∀ a, a < S 12 0 0 → S 39 a 0 ≤ S 11 0 0 ∧ S 16 a 0 ≤ 24 ∧ ∀ j, j < S 16 a 0 → S 21 a j < S 10 0 0
  | 12 => ∀ c, c < S 13 0 0 → S 41 c 0 < 5 ∧ S 43 c 0 < S 44 c 0 ∧ S 45 c 0 ≤ 99 ∧ S 42 c 0 ≤ 60 ∧ S 44 c 0 ≤ 9999 ∧ S 40 c 0 ≤ 2 ∧ S 46 c 0 ≤ 3
  | 13 => ∀ c, S 47 c 0 ≤ 10 * S 14 0 0
  | 14 => ∀ d, d < S 14 0 0 → S 48 d 0 < 10 ∧ S 49 d 0 < S 10 0 0 ∧ S 50 d 0 ≤ S 0 0 0 ∧ S 17 d 0 ≤ 10 ∧ S 18 d 0 ≤ S 3 0 0 ∧ S 53 d 0 < 256 ∧ S 54 d 0 < 32
  | 15 => ∀ d k, d < S 14 0 0 → k < S 17 d 0 → S 55 d k < S 15 (S 49 d 0) 0 ∧ S 58 d k ≤ S 13 0 0 ∧ S 56 d k = zso S d k ∧ S 57 d k = zso S d (k + 1)
  | 16 => ∀ d, d < S 14 0 0 → S 51 d 0 = zso S d (S 17 d 0)
  | 17 => ∀ d k l, d < S 14 0 0 → l < S 17 d 0 → k < l → S 55 d k < S 55 d l
  | 18 => ∀ d c, d < S 14 0 0 → ((S 53 d 0).testBit c = true ↔ ∃ k, k < S 17 d 0 ∧ S 58 d k = c + 1)
  | 19 => ∀ d g, d < S 14 0 0 → ((S 54 d 0).testBit g = true ↔ ∃ k c, k < S 17 d 0 ∧ S 58 d k = c + 1 ∧ S 41 c 0 = g)
  | 20 => ∀ d k l, d < S 14 0 0 → k < S 17 d 0 → l < S 17 d 0 → S 58 d k = S 58 d l → S 58 d k ≠ 0 → k = l
  | 21 => ∀ d e, d < e → e < S 14 0 0 → S 50 d 0 ≤ S 50 e 0
  | 22 => ∀ d r, d < S 14 0 0 → r < S 18 d 0 → S 59 d r < S 60 d r ∧ S 60 d r ≤ S 51 d 0
  | 23 => ∀ d, d < S 14 0 0 → S 52 d 0 = zlc S d (S 51 d 0)
  | 24 => ∀ d k, d < S 14 0 0 → k < S 17 d 0 → S 58 d k ≠ 0 → S 30 (S 49 d 0) (S 55 d k) = 2
  | 25 => ∀ i j, i ≤ S 10 0 0 → j < S 15 i 0 → S 30 i j ≠ 2 → 1 ≤ S 31 i j
  | _ => True
def zdv : Nat → List Nat
  | 1 => [0, 1, 2, 3]
  | 2 => [10, 12, 13, 14, 19]
  | 3 => [10, 15]
  | 4 => [10, 15, 30, 32, 33, 34]
  | 5 => [31]
  | 6 => [10, 36, 37]
  | 7 => [10, 15, 33, 30, 1, 32]
  | 8 => [10, 15, 33, 37]
  | 9 => [10, 15, 33, 34]
  | 10 => [11, 20, 10]
  | 11 => [12, 39, 11, 16, 21, 10]
  | 12 => [13, 41, 43, 44, 45, 42, 40, 46]
  | 13 => [47, 14]
  | 14 => [14, 48, 49, 10, 50, 0, 17, 18, 3, 53, 54]
  | 15 => [14, 17, 55, 15, 49, 58, 13, 56, 57, 31, 42]
  | 16 => [14, 51, 17, 58, 31, 49, 55, 42]
  | 17 => [14, 17, 55]
  | 18 => [14, 53, 17, 58]
  | 19 => [14, 54, 17, 58, 41]
  | 20 => [14, 17, 58]
  | 21 => [14, 50]
  | 22 => [14, 18, 59, 60, 51]
  | 23 => [14, 52, 51, 18, 59, 60]
  | 24 => [30, 10, 15, 49, 14, 17, 55, 58]
  | 25 => [10, 15, 30, 31]
  | _ => []
/-- the class's numbers are in order -/
def zinv (S : zS) : Prop := zH S ∧ ∀ k, zv S k
theorem zv_1 {S : zS} (V : zinv S) : S 0 0 0 ≤ 9999 ∧ S 1 0 0 < 1024 ∧ S 2 0 0 < 1024 ∧ S 3 0 0 ≤ 200 := V.2 1
theorem zv_2 {S : zS} (V : zinv S) : S 10 0 0 ≤ 24 ∧ S 12 0 0 ≤ 6 ∧ S 13 0 0 ≤ 8 ∧ S 14 0 0 ≤ 60 ∧ S 19 0 0 = S 14 0 0 := V.2 2
theorem zv_3 {S : zS} (V : zinv S) : ∀ i, i ≤ S 10 0 0 → S 15 i 0 ≤ 10 := V.2 3
theorem zv_4 {S : zS} (V : zinv S) : ∀ i j, i ≤ S 10 0 0 → j < S 15 i 0 → S 30 i j ≤ 2 ∧ (S 30 i j = 1 → 1 ≤ S 32 i j ∧ S 32 i j ≤ 10) ∧ (S 30 i j = 2 → 1 ≤ S 32 i j) ∧ S 33 i j ≤ 1 ∧ S 34 i j < 1024 := V.2 4
theorem zv_5 {S : zS} (V : zinv S) : ∀ i j, S 31 i j ≤ 999 := V.2 5
theorem zv_6 {S : zS} (V : zinv S) : ∀ i, i < S 10 0 0 → S 36 i 0 ≤ 9999 ∧ S 37 i 0 ≤ 1 := V.2 6
theorem zv_7 {S : zS} (V : zinv S) : ∀ i j, i < S 10 0 0 → j < S 15 i 0 → S 33 i j = 0 → zout S i j = false := V.2 7
theorem zv_8 {S : zS} (V : zinv S) : ∀ i, i < S 10 0 0 → zunc S i (S 15 i 0) = 0 → S 37 i 0 = 1 := V.2 8
theorem zv_9 {S : zS} (V : zinv S) : ∀ j, j < S 15 (S 10 0 0) 0 → S 33 (S 10 0 0) j = 0 ∧ S 34 (S 10 0 0) j = 0 := V.2 9
theorem zv_10 {S : zS} (V : zinv S) : ∀ j, j < S 11 0 0 → S 20 j 0 < S 10 0 0 := V.2 10
theorem zv_11 {S : zS} (V : zinv S) : ∀ a, a < S 12 0 0 → S 39 a 0 ≤ S 11 0 0 ∧ S 16 a 0 ≤ 24 ∧ ∀ j, j < S 16 a 0 → S 21 a j < S 10 0 0 := V.2 11
theorem zv_12 {S : zS} (V : zinv S) : ∀ c, c < S 13 0 0 → S 41 c 0 < 5 ∧ S 43 c 0 < S 44 c 0 ∧ S 45 c 0 ≤ 99 ∧ S 42 c 0 ≤ 60 ∧ S 44 c 0 ≤ 9999 ∧ S 40 c 0 ≤ 2 ∧ S 46 c 0 ≤ 3 := V.2 12
theorem zv_13 {S : zS} (V : zinv S) : ∀ c, S 47 c 0 ≤ 10 * S 14 0 0 := V.2 13
theorem zv_14 {S : zS} (V : zinv S) : ∀ d, d < S 14 0 0 → S 48 d 0 < 10 ∧ S 49 d 0 < S 10 0 0 ∧ S 50 d 0 ≤ S 0 0 0 ∧ S 17 d 0 ≤ 10 ∧ S 18 d 0 ≤ S 3 0 0 ∧ S 53 d 0 < 256 ∧ S 54 d 0 < 32 := V.2 14
theorem zv_15 {S : zS} (V : zinv S) : ∀ d k, d < S 14 0 0 → k < S 17 d 0 → S 55 d k < S 15 (S 49 d 0) 0 ∧ S 58 d k ≤ S 13 0 0 ∧ S 56 d k = zso S d k ∧ S 57 d k = zso S d (k + 1) := V.2 15
theorem zv_16 {S : zS} (V : zinv S) : ∀ d, d < S 14 0 0 → S 51 d 0 = zso S d (S 17 d 0) := V.2 16
theorem zv_17 {S : zS} (V : zinv S) : ∀ d k l, d < S 14 0 0 → l < S 17 d 0 → k < l → S 55 d k < S 55 d l := V.2 17
theorem zv_18 {S : zS} (V : zinv S) : ∀ d c, d < S 14 0 0 → ((S 53 d 0).testBit c = true ↔ ∃ k, k < S 17 d 0 ∧ S 58 d k = c + 1) := V.2 18
theorem zv_19 {S : zS} (V : zinv S) : ∀ d g, d < S 14 0 0 → ((S 54 d 0).testBit g = true ↔ ∃ k c, k < S 17 d 0 ∧ S 58 d k = c + 1 ∧ S 41 c 0 = g) := V.2 19
theorem zv_20 {S : zS} (V : zinv S) : ∀ d k l, d < S 14 0 0 → k < S 17 d 0 → l < S 17 d 0 → S 58 d k = S 58 d l → S 58 d k ≠ 0 → k = l := V.2 20
theorem zv_21 {S : zS} (V : zinv S) : ∀ d e, d < e → e < S 14 0 0 → S 50 d 0 ≤ S 50 e 0 := V.2 21
theorem zv_22 {S : zS} (V : zinv S) : ∀ d r, d < S 14 0 0 → r < S 18 d 0 → S 59 d r < S 60 d r ∧ S 60 d r ≤ S 51 d 0 := V.2 22
theorem zv_23 {S : zS} (V : zinv S) : ∀ d, d < S 14 0 0 → S 52 d 0 = zlc S d (S 51 d 0) := V.2 23
theorem zv_24 {S : zS} (V : zinv S) : ∀ d k, d < S 14 0 0 → k < S 17 d 0 → S 58 d k ≠ 0 → S 30 (S 49 d 0) (S 55 d k) = 2 := V.2 24
theorem zv_25 {S : zS} (V : zinv S) : ∀ i j, i ≤ S 10 0 0 → j < S 15 i 0 → S 30 i j ≠ 2 → 1 ≤ S 31 i j := V.2 25
theorem zv_S {S S' : zS} : ∀ k, (∀ g, g ∈ zdv k → S' g = S g) → zv S k → zv S' k
  | 1, h, q => by
    have e0 := h 0 (by decide)
    have e1 := h 1 (by decide)
    have e2 := h 2 (by decide)
    have e3 := h 3 (by decide)
    have q1 : S 0 0 0 ≤ 9999 ∧ S 1 0 0 < 1024 ∧ S 2 0 0 < 1024 ∧ S 3 0 0 ≤ 200 := q
    show S' 0 0 0 ≤ 9999 ∧ S' 1 0 0 < 1024 ∧ S' 2 0 0 < 1024 ∧ S' 3 0 0 ≤ 200
    simp only [e0, e1, e2, e3]
    exact q1
  | 2, h, q => by
    have e10 := h 10 (by decide)
    have e12 := h 12 (by decide)
    have e13 := h 13 (by decide)
    have e14 := h 14 (by decide)
    have e19 := h 19 (by decide)
    have q1 : S 10 0 0 ≤ 24 ∧ S 12 0 0 ≤ 6 ∧ S 13 0 0 ≤ 8 ∧ S 14 0 0 ≤ 60 ∧ S 19 0 0 = S 14 0 0 := q
    show S' 10 0 0 ≤ 24 ∧ S' 12 0 0 ≤ 6 ∧ S' 13 0 0 ≤ 8 ∧ S' 14 0 0 ≤ 60 ∧ S' 19 0 0 = S' 14 0 0
    simp only [e10, e12, e13, e14, e19]
    exact q1
  | 3, h, q => by
    have e10 := h 10 (by decide)
    have e15 := h 15 (by decide)
    have q1 : ∀ i, i ≤ S 10 0 0 → S 15 i 0 ≤ 10 := q
    show ∀ i, i ≤ S' 10 0 0 → S' 15 i 0 ≤ 10
    simp only [e10, e15]
    exact q1
  | 4, h, q => by
    have e10 := h 10 (by decide)
    have e15 := h 15 (by decide)
    have e30 := h 30 (by decide)
    have e32 := h 32 (by decide)
    have e33 := h 33 (by decide)
    have e34 := h 34 (by decide)
    have q1 : ∀ i j, i ≤ S 10 0 0 → j < S 15 i 0 → S 30 i j ≤ 2 ∧ (S 30 i j = 1 → 1 ≤ S 32 i j ∧ S 32 i j ≤ 10) ∧ (S 30 i j = 2 → 1 ≤ S 32 i j) ∧ S 33 i j ≤ 1 ∧ S 34 i j < 1024 := q
    show ∀ i j, i ≤ S' 10 0 0 → j < S' 15 i 0 → S' 30 i j ≤ 2 ∧ (S' 30 i j = 1 → 1 ≤ S' 32 i j ∧ S' 32 i j ≤ 10) ∧ (S' 30 i j = 2 → 1 ≤ S' 32 i j) ∧ S' 33 i j ≤ 1 ∧ S' 34 i j < 1024
    simp only [e10, e15, e30, e32, e33, e34]
    exact q1
  | 5, h, q => by
    have e31 := h 31 (by decide)
    have q1 : ∀ i j, S 31 i j ≤ 999 := q
    show ∀ i j, S' 31 i j ≤ 999
    simp only [e31]
    exact q1
  | 6, h, q => by
    have e10 := h 10 (by decide)
    have e36 := h 36 (by decide)
    have e37 := h 37 (by decide)
    have q1 : ∀ i, i < S 10 0 0 → S 36 i 0 ≤ 9999 ∧ S 37 i 0 ≤ 1 := q
    show ∀ i, i < S' 10 0 0 → S' 36 i 0 ≤ 9999 ∧ S' 37 i 0 ≤ 1
    simp only [e10, e36, e37]
    exact q1
  | 7, h, q => by
    have e10 := h 10 (by decide)
    have e15 := h 15 (by decide)
    have e33 := h 33 (by decide)
    have e30 := h 30 (by decide)
    have e1 := h 1 (by decide)
    have e32 := h 32 (by decide)
    have q1 : ∀ i j, i < S 10 0 0 → j < S 15 i 0 → S 33 i j = 0 → zout S i j = false := q
    show ∀ i j, i < S' 10 0 0 → j < S' 15 i 0 → S' 33 i j = 0 → zout S' i j = false
    simp only [zout_S e30 e1 e32, e10, e15, e33, e30, e1, e32]
    exact q1
  | 8, h, q => by
    have e10 := h 10 (by decide)
    have e15 := h 15 (by decide)
    have e33 := h 33 (by decide)
    have e37 := h 37 (by decide)
    have q1 : ∀ i, i < S 10 0 0 → zunc S i (S 15 i 0) = 0 → S 37 i 0 = 1 := q
    show ∀ i, i < S' 10 0 0 → zunc S' i (S' 15 i 0) = 0 → S' 37 i 0 = 1
    simp only [zunc_S e33, e10, e15, e33, e37]
    exact q1
  | 9, h, q => by
    have e10 := h 10 (by decide)
    have e15 := h 15 (by decide)
    have e33 := h 33 (by decide)
    have e34 := h 34 (by decide)
    have q1 : ∀ j, j < S 15 (S 10 0 0) 0 → S 33 (S 10 0 0) j = 0 ∧ S 34 (S 10 0 0) j = 0 := q
    show ∀ j, j < S' 15 (S' 10 0 0) 0 → S' 33 (S' 10 0 0) j = 0 ∧ S' 34 (S' 10 0 0) j = 0
    simp only [e10, e15, e33, e34]
    exact q1
  | 10, h, q => by
    have e11 := h 11 (by decide)
    have e20 := h 20 (by decide)
    have e10 := h 10 (by decide)
    have q1 : ∀ j, j < S 11 0 0 → S 20 j 0 < S 10 0 0 := q
    show ∀ j, j < S' 11 0 0 → S' 20 j 0 < S' 10 0 0
    simp only [e11, e20, e10]
    exact q1
  | 11, h, q => by
    have e12 := h 12 (by decide)
    have e39 := h 39 (by decide)
    have e11 := h 11 (by decide)
    have e16 := h 16 (by decide)
    have e21 := h 21 (by decide)
    have e10 := h 10 (by decide)
    have q1 : ∀ a, a < S 12 0 0 → S 39 a 0 ≤ S 11 0 0 ∧ S 16 a 0 ≤ 24 ∧ ∀ j, j < S 16 a 0 → S 21 a j < S 10 0 0 := q
    show ∀ a, a < S' 12 0 0 → S' 39 a 0 ≤ S' 11 0 0 ∧ S' 16 a 0 ≤ 24 ∧ ∀ j, j < S' 16 a 0 → S' 21 a j < S' 10 0 0
    simp only [e12, e39, e11, e16, e21, e10]
    exact q1
  | 12, h, q => by
    have e13 := h 13 (by decide)
    have e41 := h 41 (by decide)
    have e43 := h 43 (by decide)
    have e44 := h 44 (by decide)
    have e45 := h 45 (by decide)
    have e42 := h 42 (by decide)
    have e40 := h 40 (by decide)
    have e46 := h 46 (by decide)
    have q1 : ∀ c, c < S 13 0 0 → S 41 c 0 < 5 ∧ S 43 c 0 < S 44 c 0 ∧ S 45 c 0 ≤ 99 ∧ S 42 c 0 ≤ 60 ∧ S 44 c 0 ≤ 9999 ∧ S 40 c 0 ≤ 2 ∧ S 46 c 0 ≤ 3 := q
    show ∀ c, c < S' 13 0 0 → S' 41 c 0 < 5 ∧ S' 43 c 0 < S' 44 c 0 ∧ S' 45 c 0 ≤ 99 ∧ S' 42 c 0 ≤ 60 ∧ S' 44 c 0 ≤ 9999 ∧ S' 40 c 0 ≤ 2 ∧ S' 46 c 0 ≤ 3
    simp only [e13, e41, e43, e44, e45, e42, e40, e46]
    exact q1
  | 13, h, q => by
    have e47 := h 47 (by decide)
    have e14 := h 14 (by decide)
    have q1 : ∀ c, S 47 c 0 ≤ 10 * S 14 0 0 := q
    show ∀ c, S' 47 c 0 ≤ 10 * S' 14 0 0
    simp only [e47, e14]
    exact q1
  | 14, h, q => by
    have e14 := h 14 (by decide)
    have e48 := h 48 (by decide)
    have e49 := h 49 (by decide)
    have e10 := h 10 (by decide)
    have e50 := h 50 (by decide)
    have e0 := h 0 (by decide)
    have e17 := h 17 (by decide)
    have e18 := h 18 (by decide)
    have e3 := h 3 (by decide)
    have e53 := h 53 (by decide)
    have e54 := h 54 (by decide)
    have q1 : ∀ d, d < S 14 0 0 → S 48 d 0 < 10 ∧ S 49 d 0 < S 10 0 0 ∧ S 50 d 0 ≤ S 0 0 0 ∧ S 17 d 0 ≤ 10 ∧ S 18 d 0 ≤ S 3 0 0 ∧ S 53 d 0 < 256 ∧ S 54 d 0 < 32 := q
    show ∀ d, d < S' 14 0 0 → S' 48 d 0 < 10 ∧ S' 49 d 0 < S' 10 0 0 ∧ S' 50 d 0 ≤ S' 0 0 0 ∧ S' 17 d 0 ≤ 10 ∧ S' 18 d 0 ≤ S' 3 0 0 ∧ S' 53 d 0 < 256 ∧ S' 54 d 0 < 32
    simp only [e14, e48, e49, e10, e50, e0, e17, e18, e3, e53, e54]
    exact q1
  | 15, h, q => by
    have e14 := h 14 (by decide)
    have e17 := h 17 (by decide)
    have e55 := h 55 (by decide)
    have e15 := h 15 (by decide)
    have e49 := h 49 (by decide)
    have e58 := h 58 (by decide)
    have e13 := h 13 (by decide)
    have e56 := h 56 (by decide)
    have e57 := h 57 (by decide)
    have e31 := h 31 (by decide)
    have e42 := h 42 (by decide)
    have q1 : ∀ d k, d < S 14 0 0 → k < S 17 d 0 → S 55 d k < S 15 (S 49 d 0) 0 ∧ S 58 d k ≤ S 13 0 0 ∧ S 56 d k = zso S d k ∧ S 57 d k = zso S d (k + 1) := q
    show ∀ d k, d < S' 14 0 0 → k < S' 17 d 0 → S' 55 d k < S' 15 (S' 49 d 0) 0 ∧ S' 58 d k ≤ S' 13 0 0 ∧ S' 56 d k = zso S' d k ∧ S' 57 d k = zso S' d (k + 1)
    simp only [zso_S e58 e31 e49 e55 e42, e14, e17, e55, e15, e49, e58, e13, e56, e57, e31, e42]
    exact q1
  | 16, h, q => by
    have e14 := h 14 (by decide)
    have e51 := h 51 (by decide)
    have e17 := h 17 (by decide)
    have e58 := h 58 (by decide)
    have e31 := h 31 (by decide)
    have e49 := h 49 (by decide)
    have e55 := h 55 (by decide)
    have e42 := h 42 (by decide)
    have q1 : ∀ d, d < S 14 0 0 → S 51 d 0 = zso S d (S 17 d 0) := q
    show ∀ d, d < S' 14 0 0 → S' 51 d 0 = zso S' d (S' 17 d 0)
    simp only [zso_S e58 e31 e49 e55 e42, e14, e51, e17, e58, e31, e49, e55, e42]
    exact q1
  | 17, h, q => by
    have e14 := h 14 (by decide)
    have e17 := h 17 (by decide)
    have e55 := h 55 (by decide)
    have q1 : ∀ d k l, d < S 14 0 0 → l < S 17 d 0 → k < l → S 55 d k < S 55 d l := q
    show ∀ d k l, d < S' 14 0 0 → l < S' 17 d 0 → k < l → S' 55 d k < S' 55 d l
    simp only [e14, e17, e55]
    exact q1
  | 18, h, q => by
    have e14 := h 14 (by decide)
    have e53 := h 53 (by decide)
    have e17 := h 17 (by decide)
    have e58 := h 58 (by decide)
    have q1 : ∀ d c, d < S 14 0 0 → ((S 53 d 0).testBit c = true ↔ ∃ k, k < S 17 d 0 ∧ S 58 d k = c + 1) := q
    show ∀ d c, d < S' 14 0 0 → ((S' 53 d 0).testBit c = true ↔ ∃ k, k < S' 17 d 0 ∧ S' 58 d k = c + 1)
    simp only [e14, e53, e17, e58]
    exact q1
  | 19, h, q => by
    have e14 := h 14 (by decide)
    have e54 := h 54 (by decide)
    have e17 := h 17 (by decide)
    have e58 := h 58 (by decide)
    have e41 := h 41 (by decide)
    have q1 : ∀ d g, d < S 14 0 0 → ((S 54 d 0).testBit g = true ↔ ∃ k c, k < S 17 d 0 ∧ S 58 d k = c + 1 ∧ S 41 c 0 = g) := q
    show ∀ d g, d < S' 14 0 0 → ((S' 54 d 0).testBit g = true ↔ ∃ k c, k < S' 17 d 0 ∧ S' 58 d k = c + 1 ∧ S' 41 c 0 = g)
    simp only [e14, e54, e17, e58, e41]
    exact q1
  | 20, h, q => by
    have e14 := h 14 (by decide)
    have e17 := h 17 (by decide)
    have e58 := h 58 (by decide)
    have q1 : ∀ d k l, d < S 14 0 0 → k < S 17 d 0 → l < S 17 d 0 → S 58 d k = S 58 d l → S 58 d k ≠ 0 → k = l := q
    show ∀ d k l, d < S' 14 0 0 → k < S' 17 d 0 → l < S' 17 d 0 → S' 58 d k = S' 58 d l → S' 58 d k ≠ 0 → k = l
    simp only [e14, e17, e58]
    exact q1
  | 21, h, q => by
    have e14 := h 14 (by decide)
    have e50 := h 50 (by decide)
    have q1 : ∀ d e, d < e → e < S 14 0 0 → S 50 d 0 ≤ S 50 e 0 := q
    show ∀ d e, d < e → e < S' 14 0 0 → S' 50 d 0 ≤ S' 50 e 0
    simp only [e14, e50]
    exact q1
  | 22, h, q => by
    have e14 := h 14 (by decide)
    have e18 := h 18 (by decide)
    have e59 := h 59 (by decide)
    have e60 := h 60 (by decide)
    have e51 := h 51 (by decide)
    have q1 : ∀ d r, d < S 14 0 0 → r < S 18 d 0 → S 59 d r < S 60 d r ∧ S 60 d r ≤ S 51 d 0 := q
    show ∀ d r, d < S' 14 0 0 → r < S' 18 d 0 → S' 59 d r < S' 60 d r ∧ S' 60 d r ≤ S' 51 d 0
    simp only [e14, e18, e59, e60, e51]
    exact q1
  | 23, h, q => by
    have e14 := h 14 (by decide)
    have e52 := h 52 (by decide)
    have e51 := h 51 (by decide)
    have e18 := h 18 (by decide)
    have e59 := h 59 (by decide)
    have e60 := h 60 (by decide)
    have q1 : ∀ d, d < S 14 0 0 → S 52 d 0 = zlc S d (S 51 d 0) := q
    show ∀ d, d < S' 14 0 0 → S' 52 d 0 = zlc S' d (S' 51 d 0)
    simp only [zlc_S e18 e59 e60, e14, e52, e51, e18, e59, e60]
    exact q1
  | 24, h, q => by
    have e30 := h 30 (by decide)
    have e10 := h 10 (by decide)
    have e15 := h 15 (by decide)
    have e49 := h 49 (by decide)
    have e14 := h 14 (by decide)
    have e17 := h 17 (by decide)
    have e55 := h 55 (by decide)
    have e58 := h 58 (by decide)
    have q1 : ∀ d k, d < S 14 0 0 → k < S 17 d 0 → S 58 d k ≠ 0 → S 30 (S 49 d 0) (S 55 d k) = 2 := q
    show ∀ d k, d < S' 14 0 0 → k < S' 17 d 0 → S' 58 d k ≠ 0 → S' 30 (S' 49 d 0) (S' 55 d k) = 2
    simp only [e30, e10, e15, e49, e14, e17, e55, e58]
    exact q1
  | 25, h, q => by
    have e10 := h 10 (by decide)
    have e15 := h 15 (by decide)
    have e30 := h 30 (by decide)
    have e31 := h 31 (by decide)
    have q1 : ∀ i j, i ≤ S 10 0 0 → j < S 15 i 0 → S 30 i j ≠ 2 → 1 ≤ S 31 i j := q
    show ∀ i j, i ≤ S' 10 0 0 → j < S' 15 i 0 → S' 30 i j ≠ 2 → 1 ≤ S' 31 i j
    simp only [e10, e15, e30, e31]
    exact q1
  | 0, _, _ => trivial
  | k + 26, _, _ => trivial
def zavf (FS : List Nat) : List Nat := (List.range 26).filter (fun k => (zdv k).any (fun g => FS.contains g))
theorem zv_go {S S' : zS} (h : ∀ k, zv S k) (FS L : List Nat) (hS : ∀ g, g ∉ FS → S' g = S g) (hL : zavf FS = L) (q : ∀ k, k ∈ L → zv S' k) : ∀ k, zv S' k := by
  intro k
  by_cases hk : k < 26
  · by_cases z : k ∈ zavf FS
    · exact q k (by rw [← hL]; exact z)
    · have n2 : ¬ ((zdv k).any (fun g => FS.contains g)) = true := fun y => z (List.mem_filter.mpr ⟨List.mem_range.mpr hk, y⟩)
      refine zv_S k (fun g hg => hS g (fun y => n2 ?_)) (h k)
      rw [List.any_eq_true]
      exact ⟨g, hg, by rw [List.contains_eq_mem]; exact decide_eq_true y⟩
  · obtain ⟨m, rfl⟩ : ∃ m, k = m + 26 := ⟨k - 26, by omega⟩
    trivial
