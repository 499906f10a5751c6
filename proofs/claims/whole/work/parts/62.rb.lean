/-! THE MODEL (2): how the model stands to the class -/
/-- whether second s of d lies in one of its first ranges -/
def zld (S : zS) (d s : Nat) : Nat → Bool
  | 0 => false
  | r + 1 => zld S d s r || (decide (S 59 d r ≤ s) && decide (s < S 60 d r))
/-- the same, by the model's rows -/
def zmr (T : zT) (d s : Nat) : Nat → Bool
  | 0 => false
  | k + 1 => zmr T d s k || (decide (T.1 46 k = nI d) && decide (T.1 47 k ≤ nI s) && decide (nI s < T.1 48 k))
theorem zld_S {S S' : zS} (h9 : S' 59 = S 59) (h0 : S' 60 = S 60) (d s n : Nat) : zld S' d s n = zld S d s n := by
  induction n with
  | zero => rfl
  | succ n ih => unfold zld; rw [ih, h9, h0]
theorem zmr_T {T T' : zT} (h6 : T'.1 46 = T.1 46) (h7 : T'.1 47 = T.1 47) (h8 : T'.1 48 = T.1 48) (d s n : Nat) : zmr T' d s n = zmr T d s n := by
  induction n with
  | zero => rfl
  | succ n ih => unfold zmr; rw [ih, h6, h7, h8]
/-- what row k of the model holds -/
def zW (S : zS) (f : Nat → Int32) : Nat → Prop
  | 0 => f 0 = nI (S 0 0 0)
  | 1 => f 0 = nI (S 15 (S 10 0 0) 0)
  | 2 => ∀ j, j < S 15 (S 10 0 0) 0 → f j = nI (S 30 (S 10 0 0) j)
  | 3 => ∀ j, j < S 15 (S 10 0 0) 0 → f j = nI (S 31 (S 10 0 0) j)
  | 4 => ∀ j, j < S 15 (S 10 0 0) 0 → f j = z1 (S 32 (S 10 0 0) j)
  | 5 => ∀ j, j < 10 → f j = zb ((S 1 0 0).testBit j)
  | 6 => f 0 = nI (S 10 0 0)
  | 7 => ∀ i, i < S 10 0 0 → f i = nI (S 35 i 0)
  | 8 => ∀ i, i < S 10 0 0 → f i = nI (S 36 i 0)
  | 9 => ∀ i, i < 24 → f i = zb (decide (i < S 10 0 0 ∧ S 36 i 0 ≤ S 0 0 0))
  | 10 => ∀ i, i < 24 → f i = zb (decide (i < S 10 0 0 ∧ S 37 i 0 ≠ 0))
  | 11 => ∀ i, i < S 10 0 0 → f i = nI (S 15 i 0)
  | 12 => ∀ i j, i < S 10 0 0 → j < S 15 i 0 → f (10 * i + j) = nI (S 30 i j)
  | 13 => ∀ i j, i < S 10 0 0 → j < S 15 i 0 → f (10 * i + j) = nI (S 31 i j)
  | 14 => ∀ i j, i < S 10 0 0 → j < S 15 i 0 → f (10 * i + j) = z1 (S 32 i j)
  | 15 => ∀ i j, i < S 10 0 0 → j < S 15 i 0 → f (10 * i + j) = zb (decide (S 33 i j ≠ 0))
  | 16 => f 0 = nI (S 11 0 0)
  | 17 => ∀ j, j < S 11 0 0 → f j = nI (S 20 j 0)
  | 18 => f 0 = nI (S 12 0 0)
  | 19 => ∀ a, a < S 12 0 0 → f a = nI (S 38 a 0)
  | 20 => ∀ a, a < 6 → f a = nI (if a < S 12 0 0 then S 39 a 0 else 0)
  | 21 => ∀ a, a < 6 → f a = nI (if a < S 12 0 0 then S 16 a 0 else 0)
  | 22 => ∀ a j, a < S 12 0 0 → j < S 16 a 0 → f (24 * a + j) = nI (S 21 a j)
  | 23 => f 0 = nI (S 13 0 0)
  | 24 => ∀ c, c < S 13 0 0 → f c = nI (S 40 c 0)
  | 25 => ∀ c, c < S 13 0 0 → f c = nI (S 41 c 0)
  | 26 => ∀ c, c < S 13 0 0 → f c = nI (S 42 c 0)
  | 27 => ∀ c, c < S 13 0 0 → f c = nI (S 43 c 0)
  | 28 => ∀ c, c < S 13 0 0 → f c = nI (S 44 c 0)
  | 29 => ∀ c, c < S 13 0 0 → f c = nI (S 45 c 0)
  | 30 => ∀ c, c < S 13 0 0 → f c = nI (S 46 c 0)
  | 31 => ∀ c, c < 8 → f c = nI (if c < S 13 0 0 then S 47 c 0 else 0)
  | 32 => ∀ l, l < 10 → f l = zb ((S 2 0 0).testBit l)
  | 33 => ∀ l i j, l < 10 → i < 24 → j < 10 → f (240 * l + 10 * i + j) = zb (decide (i < S 10 0 0 ∧ j < S 15 i 0) && (S 34 i j).testBit l)
  | 34 => f 0 = nI (S 14 0 0)
  | 35 => ∀ d, d < S 14 0 0 → f d = nI (S 48 d 0)
  | 36 => ∀ d, d < S 14 0 0 → f d = nI (S 49 d 0)
  | 37 => ∀ d, d < S 14 0 0 → f d = nI (S 50 d 0)
  | 38 => ∀ d, d < 60 → f d = nI (if d < S 14 0 0 then S 17 d 0 else 0)
  | 39 => ∀ d, d < 60 → f d = nI (if d < S 14 0 0 then S 51 d 0 else 0)
  | 40 => ∀ d k, d < S 14 0 0 → k < S 17 d 0 → f (10 * d + k) = nI (S 55 d k)
  | 41 => ∀ d k, d < S 14 0 0 → k < S 17 d 0 → f (10 * d + k) = z1 (S 58 d k)
  | 42 => ∀ d, d < 60 → f d = nI (if d < S 14 0 0 then S 52 d 0 else 0)
  | 43 => ∀ d s, d < 60 → s < 10000 → f (10000 * d + s) = zb (decide (d < S 14 0 0) && zld S d s (S 18 d 0))
  | 45 => f 0 = nI (S 3 0 0)
  | _ => True
/-- the class's fields that row k speaks of -/
def zdp : Nat → List Nat
  | 0 => [0]
  | 1 => [10, 15]
  | 2 => [10, 15, 30]
  | 3 => [10, 15, 31]
  | 4 => [10, 15, 32]
  | 5 => [1]
  | 6 => [10]
  | 7 => [10, 35]
  | 8 => [10, 36]
  | 9 => [10, 36, 0]
  | 10 => [10, 37]
  | 11 => [10, 15]
  | 12 => [10, 15, 30]
  | 13 => [10, 15, 31]
  | 14 => [10, 15, 32]
  | 15 => [10, 15, 33]
  | 16 => [11]
  | 17 => [11, 20]
  | 18 => [12]
  | 19 => [12, 38]
  | 20 => [12, 39]
  | 21 => [12, 16]
  | 22 => [12, 16, 21]
  | 23 => [13]
  | 24 => [13, 40]
  | 25 => [13, 41]
  | 26 => [13, 42]
  | 27 => [13, 43]
  | 28 => [13, 44]
  | 29 => [13, 45]
  | 30 => [13, 46]
  | 31 => [13, 47]
  | 32 => [2]
  | 33 => [10, 15, 34]
  | 34 => [14]
  | 35 => [14, 48]
  | 36 => [14, 49]
  | 37 => [14, 50]
  | 38 => [14, 17]
  | 39 => [14, 51]
  | 40 => [14, 17, 55]
  | 41 => [14, 17, 58]
  | 42 => [14, 52]
  | 43 => [14, 18, 59, 60]
  | 45 => [3]
  | _ => []
/-- the model stands to the class -/
def zR (S : zS) (T : zT) : Prop := (∀ k, zW S (T.1 k) k) ∧ ∀ d s, d < 60 → s < 10000 → zmr T d s (S 3 0 0) = (decide (d < S 14 0 0) && zld S d s (S 18 d 0))
theorem zr_0 {S : zS} {T : zT} (R : zR S T) : T.1 0 0 = nI (S 0 0 0) := R.1 0
theorem zr_1 {S : zS} {T : zT} (R : zR S T) : T.1 1 0 = nI (S 15 (S 10 0 0) 0) := R.1 1
theorem zr_2 {S : zS} {T : zT} (R : zR S T) : ∀ j, j < S 15 (S 10 0 0) 0 → T.1 2 j = nI (S 30 (S 10 0 0) j) := R.1 2
theorem zr_3 {S : zS} {T : zT} (R : zR S T) : ∀ j, j < S 15 (S 10 0 0) 0 → T.1 3 j = nI (S 31 (S 10 0 0) j) := R.1 3
theorem zr_4 {S : zS} {T : zT} (R : zR S T) : ∀ j, j < S 15 (S 10 0 0) 0 → T.1 4 j = z1 (S 32 (S 10 0 0) j) := R.1 4
theorem zr_5 {S : zS} {T : zT} (R : zR S T) : ∀ j, j < 10 → T.1 5 j = zb ((S 1 0 0).testBit j) := R.1 5
theorem zr_6 {S : zS} {T : zT} (R : zR S T) : T.1 6 0 = nI (S 10 0 0) := R.1 6
theorem zr_7 {S : zS} {T : zT} (R : zR S T) : ∀ i, i < S 10 0 0 → T.1 7 i = nI (S 35 i 0) := R.1 7
theorem zr_8 {S : zS} {T : zT} (R : zR S T) : ∀ i, i < S 10 0 0 → T.1 8 i = nI (S 36 i 0) := R.1 8
theorem zr_9 {S : zS} {T : zT} (R : zR S T) : ∀ i, i < 24 → T.1 9 i = zb (decide (i < S 10 0 0 ∧ S 36 i 0 ≤ S 0 0 0)) := R.1 9
theorem zr_10 {S : zS} {T : zT} (R : zR S T) : ∀ i, i < 24 → T.1 10 i = zb (decide (i < S 10 0 0 ∧ S 37 i 0 ≠ 0)) := R.1 10
theorem zr_11 {S : zS} {T : zT} (R : zR S T) : ∀ i, i < S 10 0 0 → T.1 11 i = nI (S 15 i 0) := R.1 11
theorem zr_12 {S : zS} {T : zT} (R : zR S T) : ∀ i j, i < S 10 0 0 → j < S 15 i 0 → T.1 12 (10 * i + j) = nI (S 30 i j) := R.1 12
theorem zr_13 {S : zS} {T : zT} (R : zR S T) : ∀ i j, i < S 10 0 0 → j < S 15 i 0 → T.1 13 (10 * i + j) = nI (S 31 i j) := R.1 13
theorem zr_14 {S : zS} {T : zT} (R : zR S T) : ∀ i j, i < S 10 0 0 → j < S 15 i 0 → T.1 14 (10 * i + j) = z1 (S 32 i j) := R.1 14
theorem zr_15 {S : zS} {T : zT} (R : zR S T) : ∀ i j, i < S 10 0 0 → j < S 15 i 0 → T.1 15 (10 * i + j) = zb (decide (S 33 i j ≠ 0)) := R.1 15
theorem zr_16 {S : zS} {T : zT} (R : zR S T) : T.1 16 0 = nI (S 11 0 0) := R.1 16
theorem zr_17 {S : zS} {T : zT} (R : zR S T) : ∀ j, j < S 11 0 0 → T.1 17 j = nI (S 20 j 0) := R.1 17
theorem zr_18 {S : zS} {T : zT} (R : zR S T) : T.1 18 0 = nI (S 12 0 0) := R.1 18
theorem zr_19 {S : zS} {T : zT} (R : zR S T) : ∀ a, a < S 12 0 0 → T.1 19 a = nI (S 38 a 0) := R.1 19
theorem zr_20 {S : zS} {T : zT} (R : zR S T) : ∀ a, a < 6 → T.1 20 a = nI (if a < S 12 0 0 then S 39 a 0 else 0) := R.1 20
theorem zr_21 {S : zS} {T : zT} (R : zR S T) : ∀ a, a < 6 → T.1 21 a = nI (if a < S 12 0 0 then S 16 a 0 else 0) := R.1 21
theorem zr_22 {S : zS} {T : zT} (R : zR S T) : ∀ a j, a < S 12 0 0 → j < S 16 a 0 → T.1 22 (24 * a + j) = nI (S 21 a j) := R.1 22
theorem zr_23 {S : zS} {T : zT} (R : zR S T) : T.1 23 0 = nI (S 13 0 0) := R.1 23
theorem zr_24 {S : zS} {T : zT} (R : zR S T) : ∀ c, c < S 13 0 0 → T.1 24 c = nI (S 40 c 0) := R.1 24
theorem zr_25 {S : zS} {T : zT} (R : zR S T) : ∀ c, c < S 13 0 0 → T.1 25 c = nI (S 41 c 0) := R.1 25
theorem zr_26 {S : zS} {T : zT} (R : zR S T) : ∀ c, c < S 13 0 0 → T.1 26 c = nI (S 42 c 0) := R.1 26
theorem zr_27 {S : zS} {T : zT} (R : zR S T) : ∀ c, c < S 13 0 0 → T.1 27 c = nI (S 43 c 0) := R.1 27
theorem zr_28 {S : zS} {T : zT} (R : zR S T) : ∀ c, c < S 13 0 0 → T.1 28 c = nI (S 44 c 0) := R.1 28
theorem zr_29 {S : zS} {T : zT} (R : zR S T) : ∀ c, c < S 13 0 0 → T.1 29 c = nI (S 45 c 0) := R.1 29
theorem zr_30 {S : zS} {T : zT} (R : zR S T) : ∀ c, c < S 13 0 0 → T.1 30 c = nI (S 46 c 0) := R.1 30
theorem zr_31 {S : zS} {T : zT} (R : zR S T) : ∀ c, c < 8 → T.1 31 c = nI (if c < S 13 0 0 then S 47 c 0 else 0) := R.1 31
theorem zr_32 {S : zS} {T : zT} (R : zR S T) : ∀ l, l < 10 → T.1 32 l = zb ((S 2 0 0).testBit l) := R.1 32
theorem zr_33 {S : zS} {T : zT} (R : zR S T) : ∀ l i j, l < 10 → i < 24 → j < 10 → T.1 33 (240 * l + 10 * i + j) = zb (decide (i < S 10 0 0 ∧ j < S 15 i 0) && (S 34 i j).testBit l) := R.1 33
theorem zr_34 {S : zS} {T : zT} (R : zR S T) : T.1 34 0 = nI (S 14 0 0) := R.1 34
theorem zr_35 {S : zS} {T : zT} (R : zR S T) : ∀ d, d < S 14 0 0 → T.1 35 d = nI (S 48 d 0) := R.1 35
theorem zr_36 {S : zS} {T : zT} (R : zR S T) : ∀ d, d < S 14 0 0 → T.1 36 d = nI (S 49 d 0) := R.1 36
theorem zr_37 {S : zS} {T : zT} (R : zR S T) : ∀ d, d < S 14 0 0 → T.1 37 d = nI (S 50 d 0) := R.1 37
theorem zr_38 {S : zS} {T : zT} (R : zR S T) : ∀ d, d < 60 → T.1 38 d = nI (if d < S 14 0 0 then S 17 d 0 else 0) := R.1 38
theorem zr_39 {S : zS} {T : zT} (R : zR S T) : ∀ d, d < 60 → T.1 39 d = nI (if d < S 14 0 0 then S 51 d 0 else 0) := R.1 39
theorem zr_40 {S : zS} {T : zT} (R : zR S T) : ∀ d k, d < S 14 0 0 → k < S 17 d 0 → T.1 40 (10 * d + k) = nI (S 55 d k) := R.1 40
theorem zr_41 {S : zS} {T : zT} (R : zR S T) : ∀ d k, d < S 14 0 0 → k < S 17 d 0 → T.1 41 (10 * d + k) = z1 (S 58 d k) := R.1 41
theorem zr_42 {S : zS} {T : zT} (R : zR S T) : ∀ d, d < 60 → T.1 42 d = nI (if d < S 14 0 0 then S 52 d 0 else 0) := R.1 42
theorem zr_43 {S : zS} {T : zT} (R : zR S T) : ∀ d s, d < 60 → s < 10000 → T.1 43 (10000 * d + s) = zb (decide (d < S 14 0 0) && zld S d s (S 18 d 0)) := R.1 43
theorem zr_45 {S : zS} {T : zT} (R : zR S T) : T.1 45 0 = nI (S 3 0 0) := R.1 45
theorem zW_S {S S' : zS} {f : Nat → Int32} : ∀ k, (∀ g, g ∈ zdp k → S' g = S g) → zW S f k → zW S' f k
  | 0, h, q => by
    have e0 := h 0 (by decide)
    have q1 : f 0 = nI (S 0 0 0) := q
    show f 0 = nI (S' 0 0 0)
    rw [e0]
    exact q1
  | 1, h, q => by
    have e10 := h 10 (by decide)
    have e15 := h 15 (by decide)
    have q1 : f 0 = nI (S 15 (S 10 0 0) 0) := q
    show f 0 = nI (S' 15 (S' 10 0 0) 0)
    rw [e10, e15]
    exact q1
  | 2, h, q => by
    have e10 := h 10 (by decide)
    have e15 := h 15 (by decide)
    have e30 := h 30 (by decide)
    have q1 : ∀ j, j < S 15 (S 10 0 0) 0 → f j = nI (S 30 (S 10 0 0) j) := q
    show ∀ j, j < S' 15 (S' 10 0 0) 0 → f j = nI (S' 30 (S' 10 0 0) j)
    rw [e10, e15, e30]
    exact q1
  | 3, h, q => by
    have e10 := h 10 (by decide)
    have e15 := h 15 (by decide)
    have e31 := h 31 (by decide)
    have q1 : ∀ j, j < S 15 (S 10 0 0) 0 → f j = nI (S 31 (S 10 0 0) j) := q
    show ∀ j, j < S' 15 (S' 10 0 0) 0 → f j = nI (S' 31 (S' 10 0 0) j)
    rw [e10, e15, e31]
    exact q1
  | 4, h, q => by
    have e10 := h 10 (by decide)
    have e15 := h 15 (by decide)
    have e32 := h 32 (by decide)
    have q1 : ∀ j, j < S 15 (S 10 0 0) 0 → f j = z1 (S 32 (S 10 0 0) j) := q
    show ∀ j, j < S' 15 (S' 10 0 0) 0 → f j = z1 (S' 32 (S' 10 0 0) j)
    rw [e10, e15, e32]
    exact q1
  | 5, h, q => by
    have e1 := h 1 (by decide)
    have q1 : ∀ j, j < 10 → f j = zb ((S 1 0 0).testBit j) := q
    show ∀ j, j < 10 → f j = zb ((S' 1 0 0).testBit j)
    rw [e1]
    exact q1
  | 6, h, q => by
    have e10 := h 10 (by decide)
    have q1 : f 0 = nI (S 10 0 0) := q
    show f 0 = nI (S' 10 0 0)
    rw [e10]
    exact q1
  | 7, h, q => by
    have e10 := h 10 (by decide)
    have e35 := h 35 (by decide)
    have q1 : ∀ i, i < S 10 0 0 → f i = nI (S 35 i 0) := q
    show ∀ i, i < S' 10 0 0 → f i = nI (S' 35 i 0)
    rw [e10, e35]
    exact q1
  | 8, h, q => by
    have e10 := h 10 (by decide)
    have e36 := h 36 (by decide)
    have q1 : ∀ i, i < S 10 0 0 → f i = nI (S 36 i 0) := q
    show ∀ i, i < S' 10 0 0 → f i = nI (S' 36 i 0)
    rw [e10, e36]
    exact q1
  | 9, h, q => by
    have e10 := h 10 (by decide)
    have e36 := h 36 (by decide)
    have e0 := h 0 (by decide)
    have q1 : ∀ i, i < 24 → f i = zb (decide (i < S 10 0 0 ∧ S 36 i 0 ≤ S 0 0 0)) := q
    show ∀ i, i < 24 → f i = zb (decide (i < S' 10 0 0 ∧ S' 36 i 0 ≤ S' 0 0 0))
    rw [e10, e36, e0]
    exact q1
  | 10, h, q => by
    have e10 := h 10 (by decide)
    have e37 := h 37 (by decide)
    have q1 : ∀ i, i < 24 → f i = zb (decide (i < S 10 0 0 ∧ S 37 i 0 ≠ 0)) := q
    show ∀ i, i < 24 → f i = zb (decide (i < S' 10 0 0 ∧ S' 37 i 0 ≠ 0))
    rw [e10, e37]
    exact q1
  | 11, h, q => by
    have e10 := h 10 (by decide)
    have e15 := h 15 (by decide)
    have q1 : ∀ i, i < S 10 0 0 → f i = nI (S 15 i 0) := q
    show ∀ i, i < S' 10 0 0 → f i = nI (S' 15 i 0)
    rw [e10, e15]
    exact q1
  | 12, h, q => by
    have e10 := h 10 (by decide)
    have e15 := h 15 (by decide)
    have e30 := h 30 (by decide)
    have q1 : ∀ i j, i < S 10 0 0 → j < S 15 i 0 → f (10 * i + j) = nI (S 30 i j) := q
    show ∀ i j, i < S' 10 0 0 → j < S' 15 i 0 → f (10 * i + j) = nI (S' 30 i j)
    rw [e10, e15, e30]
    exact q1
  | 13, h, q => by
    have e10 := h 10 (by decide)
    have e15 := h 15 (by decide)
    have e31 := h 31 (by decide)
    have q1 : ∀ i j, i < S 10 0 0 → j < S 15 i 0 → f (10 * i + j) = nI (S 31 i j) := q
    show ∀ i j, i < S' 10 0 0 → j < S' 15 i 0 → f (10 * i + j) = nI (S' 31 i j)
    rw [e10, e15, e31]
    exact q1
  | 14, h, q => by
    have e10 := h 10 (by decide)
    have e15 := h 15 (by decide)
    have e32 := h 32 (by decide)
    have q1 : ∀ i j, i < S 10 0 0 → j < S 15 i 0 → f (10 * i + j) = z1 (S 32 i j) := q
    show ∀ i j, i < S' 10 0 0 → j < S' 15 i 0 → f (10 * i + j) = z1 (S' 32 i j)
    rw [e10, e15, e32]
    exact q1
  | 15, h, q => by
    have e10 := h 10 (by decide)
    have e15 := h 15 (by decide)
    have e33 := h 33 (by decide)
    have q1 : ∀ i j, i < S 10 0 0 → j < S 15 i 0 → f (10 * i + j) = zb (decide (S 33 i j ≠ 0)) := q
    show ∀ i j, i < S' 10 0 0 → j < S' 15 i 0 → f (10 * i + j) = zb (decide (S' 33 i j ≠ 0))
    rw [e10, e15, e33]
    exact q1
  | 16, h, q => by
    have e11 := h 11 (by decide)
    have q1 : f 0 = nI (S 11 0 0) := q
    show f 0 = nI (S' 11 0 0)
    rw [e11]
    exact q1
  | 17, h, q => by
    have e11 := h 11 (by decide)
    have e20 := h 20 (by decide)
    have q1 : ∀ j, j < S 11 0 0 → f j = nI (S 20 j 0) := q
    show ∀ j, j < S' 11 0 0 → f j = nI (S' 20 j 0)
    rw [e11, e20]
    exact q1
  | 18, h, q => by
    have e12 := h 12 (by decide)
    have q1 : f 0 = nI (S 12 0 0) := q
    show f 0 = nI (S' 12 0 0)
    rw [e12]
    exact q1
  | 19, h, q => by
    have e12 := h 12 (by decide)
    have e38 := h 38 (by decide)
    have q1 : ∀ a, a < S 12 0 0 → f a = nI (S 38 a 0) := q
    show ∀ a, a < S' 12 0 0 → f a = nI (S' 38 a 0)
    rw [e12, e38]
    exact q1
  | 20, h, q => by
    have e12 := h 12 (by decide)
    have e39 := h 39 (by decide)
    have q1 : ∀ a, a < 6 → f a = nI (if a < S 12 0 0 then S 39 a 0 else 0) := q
    show ∀ a, a < 6 → f a = nI (if a < S' 12 0 0 then S' 39 a 0 else 0)
    rw [e12, e39]
    exact q1
  | 21, h, q => by
    have e12 := h 12 (by decide)
    have e16 := h 16 (by decide)
    have q1 : ∀ a, a < 6 → f a = nI (if a < S 12 0 0 then S 16 a 0 else 0) := q
    show ∀ a, a < 6 → f a = nI (if a < S' 12 0 0 then S' 16 a 0 else 0)
    rw [e12, e16]
    exact q1
  | 22, h, q => by
    have e12 := h 12 (by decide)
    have e16 := h 16 (by decide)
    have e21 := h 21 (by decide)
    have q1 : ∀ a j, a < S 12 0 0 → j < S 16 a 0 → f (24 * a + j) = nI (S 21 a j) := q
    show ∀ a j, a < S' 12 0 0 → j < S' 16 a 0 → f (24 * a + j) = nI (S' 21 a j)
    rw [e12, e16, e21]
    exact q1
  | 23, h, q => by
    have e13 := h 13 (by decide)
    have q1 : f 0 = nI (S 13 0 0) := q
    show f 0 = nI (S' 13 0 0)
    rw [e13]
    exact q1
  | 24, h, q => by
    have e13 := h 13 (by decide)
    have e40 := h 40 (by decide)
    have q1 : ∀ c, c < S 13 0 0 → f c = nI (S 40 c 0) := q
    show ∀ c, c < S' 13 0 0 → f c = nI (S' 40 c 0)
    rw [e13, e40]
    exact q1
  | 25, h, q => by
    have e13 := h 13 (by decide)
    have e41 := h 41 (by decide)
    have q1 : ∀ c, c < S 13 0 0 → f c = nI (S 41 c 0) := q
    show ∀ c, c < S' 13 0 0 → f c = nI (S' 41 c 0)
    rw [e13, e41]
    exact q1
  | 26, h, q => by
    have e13 := h 13 (by decide)
    have e42 := h 42 (by decide)
    have q1 : ∀ c, c < S 13 0 0 → f c = nI (S 42 c 0) := q
    show ∀ c, c < S' 13 0 0 → f c = nI (S' 42 c 0)
    rw [e13, e42]
    exact q1
  | 27, h, q => by
    have e13 := h 13 (by decide)
    have e43 := h 43 (by decide)
    have q1 : ∀ c, c < S 13 0 0 → f c = nI (S 43 c 0) := q
    show ∀ c, c < S' 13 0 0 → f c = nI (S' 43 c 0)
    rw [e13, e43]
    exact q1
  | 28, h, q => by
    have e13 := h 13 (by decide)
    have e44 := h 44 (by decide)
    have q1 : ∀ c, c < S 13 0 0 → f c = nI (S 44 c 0) := q
    show ∀ c, c < S' 13 0 0 → f c = nI (S' 44 c 0)
    rw [e13, e44]
    exact q1
  | 29, h, q => by
    have e13 := h 13 (by decide)
    have e45 := h 45 (by decide)
    have q1 : ∀ c, c < S 13 0 0 → f c = nI (S 45 c 0) := q
    show ∀ c, c < S' 13 0 0 → f c = nI (S' 45 c 0)
    rw [e13, e45]
    exact q1
  | 30, h, q => by
    have e13 := h 13 (by decide)
    have e46 := h 46 (by decide)
    have q1 : ∀ c, c < S 13 0 0 → f c = nI (S 46 c 0) := q
    show ∀ c, c < S' 13 0 0 → f c = nI (S' 46 c 0)
    rw [e13, e46]
    exact q1
  | 31, h, q => by
    have e13 := h 13 (by decide)
    have e47 := h 47 (by decide)
    have q1 : ∀ c, c < 8 → f c = nI (if c < S 13 0 0 then S 47 c 0 else 0) := q
    show ∀ c, c < 8 → f c = nI (if c < S' 13 0 0 then S' 47 c 0 else 0)
    rw [e13, e47]
    exact q1
  | 32, h, q => by
    have e2 := h 2 (by decide)
    have q1 : ∀ l, l < 10 → f l = zb ((S 2 0 0).testBit l) := q
    show ∀ l, l < 10 → f l = zb ((S' 2 0 0).testBit l)
    rw [e2]
    exact q1
  | 33, h, q => by
    have e10 := h 10 (by decide)
    have e15 := h 15 (by decide)
    have e34 := h 34 (by decide)
    have q1 : ∀ l i j, l < 10 → i < 24 → j < 10 → f (240 * l + 10 * i + j) = zb (decide (i < S 10 0 0 ∧ j < S 15 i 0) && (S 34 i j).testBit l) := q
    show ∀ l i j, l < 10 → i < 24 → j < 10 → f (240 * l + 10 * i + j) = zb (decide (i < S' 10 0 0 ∧ j < S' 15 i 0) && (S' 34 i j).testBit l)
    rw [e10, e15, e34]
    exact q1
  | 34, h, q => by
    have e14 := h 14 (by decide)
    have q1 : f 0 = nI (S 14 0 0) := q
    show f 0 = nI (S' 14 0 0)
    rw [e14]
    exact q1
  | 35, h, q => by
    have e14 := h 14 (by decide)
    have e48 := h 48 (by decide)
    have q1 : ∀ d, d < S 14 0 0 → f d = nI (S 48 d 0) := q
    show ∀ d, d < S' 14 0 0 → f d = nI (S' 48 d 0)
    rw [e14, e48]
    exact q1
  | 36, h, q => by
    have e14 := h 14 (by decide)
    have e49 := h 49 (by decide)
    have q1 : ∀ d, d < S 14 0 0 → f d = nI (S 49 d 0) := q
    show ∀ d, d < S' 14 0 0 → f d = nI (S' 49 d 0)
    rw [e14, e49]
    exact q1
  | 37, h, q => by
    have e14 := h 14 (by decide)
    have e50 := h 50 (by decide)
    have q1 : ∀ d, d < S 14 0 0 → f d = nI (S 50 d 0) := q
    show ∀ d, d < S' 14 0 0 → f d = nI (S' 50 d 0)
    rw [e14, e50]
    exact q1
  | 38, h, q => by
    have e14 := h 14 (by decide)
    have e17 := h 17 (by decide)
    have q1 : ∀ d, d < 60 → f d = nI (if d < S 14 0 0 then S 17 d 0 else 0) := q
    show ∀ d, d < 60 → f d = nI (if d < S' 14 0 0 then S' 17 d 0 else 0)
    rw [e14, e17]
    exact q1
  | 39, h, q => by
    have e14 := h 14 (by decide)
    have e51 := h 51 (by decide)
    have q1 : ∀ d, d < 60 → f d = nI (if d < S 14 0 0 then S 51 d 0 else 0) := q
    show ∀ d, d < 60 → f d = nI (if d < S' 14 0 0 then S' 51 d 0 else 0)
    rw [e14, e51]
    exact q1
  | 40, h, q => by
    have e14 := h 14 (by decide)
    have e17 := h 17 (by decide)
    have e55 := h 55 (by decide)
    have q1 : ∀ d k, d < S 14 0 0 → k < S 17 d 0 → f (10 * d + k) = nI (S 55 d k) := q
    show ∀ d k, d < S' 14 0 0 → k < S' 17 d 0 → f (10 * d + k) = nI (S' 55 d k)
    rw [e14, e17, e55]
    exact q1
  | 41, h, q => by
    have e14 := h 14 (by decide)
    have e17 := h 17 (by decide)
    have e58 := h 58 (by decide)
    have q1 : ∀ d k, d < S 14 0 0 → k < S 17 d 0 → f (10 * d + k) = z1 (S 58 d k) := q
    show ∀ d k, d < S' 14 0 0 → k < S' 17 d 0 → f (10 * d + k) = z1 (S' 58 d k)
    rw [e14, e17, e58]
    exact q1
  | 42, h, q => by
    have e14 := h 14 (by decide)
    have e52 := h 52 (by decide)
    have q1 : ∀ d, d < 60 → f d = nI (if d < S 14 0 0 then S 52 d 0 else 0) := q
    show ∀ d, d < 60 → f d = nI (if d < S' 14 0 0 then S' 52 d 0 else 0)
    rw [e14, e52]
    exact q1
  | 43, h, q => by
    have e14 := h 14 (by decide)
    have e18 := h 18 (by decide)
    have e59 := h 59 (by decide)
    have e60 := h 60 (by decide)
    have q1 : ∀ d s, d < 60 → s < 10000 → f (10000 * d + s) = zb (decide (d < S 14 0 0) && zld S d s (S 18 d 0)) := q
    show ∀ d s, d < 60 → s < 10000 → f (10000 * d + s) = zb (decide (d < S' 14 0 0) && zld S' d s (S' 18 d 0))
    intro d s hd hs
    rw [zld_S e59 e60, e14, e18]
    exact q1 d s hd hs
  | 45, h, q => by
    have e3 := h 3 (by decide)
    have q1 : f 0 = nI (S 3 0 0) := q
    show f 0 = nI (S' 3 0 0)
    rw [e3]
    exact q1
  | 44, _, _ => trivial
  | k + 46, _, _ => trivial
/-- rows that a step may touch: the fields FS are another, and the rows K -/
def zaf (FS K : List Nat) : List Nat := (List.range 46).filter (fun k => K.contains k || (zdp k).any (fun g => FS.contains g))
theorem zR_go {S S' : zS} {T T' : zT} (h : ∀ k, zW S (T.1 k) k) (FS K L : List Nat) (hS : ∀ g, g ∉ FS → S' g = S g) (hT : ∀ k, k ∉ K → T'.1 k = T.1 k) (hL : zaf FS K = L) (q : ∀ k, k ∈ L → zW S' (T'.1 k) k) : ∀ k, zW S' (T'.1 k) k := by
  intro k
  by_cases hk : k < 46
  · by_cases z : k ∈ zaf FS K
    · exact q k (by rw [← hL]; exact z)
    · have hn : ¬ (K.contains k || (zdp k).any (fun g => FS.contains g)) = true := fun y => z (List.mem_filter.mpr ⟨List.mem_range.mpr hk, y⟩)
      rw [Bool.or_eq_true, not_or] at hn
      obtain ⟨n1, n2⟩ := hn
      have k1 : k ∉ K := fun y => n1 (by rw [List.contains_eq_mem]; exact decide_eq_true y)
      rw [hT k k1]
      refine zW_S k (fun g hg => hS g (fun y => n2 ?_)) (h k)
      rw [List.any_eq_true]
      exact ⟨g, hg, by rw [List.contains_eq_mem]; exact decide_eq_true y⟩
  · obtain ⟨m, rfl⟩ : ∃ m, k = m + 46 := ⟨k - 46, by omega⟩
    trivial
/-- a row that says nothing -/
theorem zR_t {S : zS} {T : zT} (R : zR S T) {k : Nat} (hk : k = 44 ∨ k = 49) (f : Nat → Int32) : zR S (ztu T k f) := by
  refine ⟨fun j => ?_, fun d s hd hs => ?_⟩
  · by_cases z : j = k
    · subst z
      rcases hk with rfl | rfl <;> trivial
    · rw [ztu_ne T f z]
      exact R.1 j
  · rw [zmr_T (ztu_ne T f (by omega)) (ztu_ne T f (by omega)) (ztu_ne T f (by omega))]
    exact R.2 d s hd hs
