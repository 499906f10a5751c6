/-! THE STATE (1): roles, contents, the heap of a state -/
/-- a role: kind, place, place; 0 the class; 1 part, 2 item, 3 app, 4 campaign, 5 download, 6 piece, 7 range; 10 .. 18 a list (third 0) and its row (third 1): items, changes, apps, campaigns, downloads, parts, told, pieces, log; 30 the model, 31 its rows; 90 the law's out; 91 the script -/
abbrev zQ : Type := Nat × Nat × Nat
/-- where a role lies; which role lies there -/
abbrev zA : Type := (zQ → Nat) × (Nat → Option zQ)
/-- the class's numbers: by field and place -/
abbrev zS : Type := Nat → Nat → Nat → Nat
/-- addresses by field and place; the lists' rows; the lists' counts of changes -/
abbrev zB : Type := (Nat → Nat → Nat → Nat) × (Nat → Nat → Nat → Option Nat) × (Nat → Nat → Int32)
/-- the model's fields; the law's out -/
abbrev zT : Type := (Nat → Nat → Int32) × (Nat → Int64)
def zV (A : zA) (r : zQ) : Prop := A.2 (A.1 r) = some r
def zF (A : zA) : Prop := ∀ q r, A.2 q = some r → A.1 r = q
/-- a number or none: none is 0, n is n + 1 -/
def z1 (n : Nat) : Int32 := nI n - nI 1
def zup (S : zS) (f i j v : Nat) : zS := fun f' i' j' => if f' = f ∧ i' = i ∧ j' = j then v else S f' i' j'
theorem zup_s (S : zS) (f i j v : Nat) : zup S f i j v f i j = v := if_pos ⟨rfl, rfl, rfl⟩
theorem zup_n (S : zS) {f i j v f' i' j' : Nat} (h : ¬ (f' = f ∧ i' = i ∧ j' = j)) : zup S f i j v f' i' j' = S f' i' j' := if_neg h
/-- the law's rows: 1 told, 2 how many, 3 hours, 4 what was left -/
def zms (_ : Nat) : Bool := false
def zmv (B : zB) (T : zT) (k : Nat) : Value := if zms k = true then .int (T.1 k 0) else .ref (B.1 10 k 0)
/-- the model's fields -/
def zMf (B : zB) (T : zT) : List Value := (List.range 50).map (zmv B T)
def zbo (_ : Nat) : Bool := false
def zln (k : Nat) : Nat := if k = 1 then 48 else if k = 2 then 2 else 24
def zar (T : zT) (k : Nat) : za_E := match zms k with
  | true => .inl (.int, 0, .inl (fun _ => 0))
  | false => match zbo k with
    | true => .inl (.boolean, zln k, .inl (T.1 k))
    | false => .inl (.int, zln k, .inl (T.1 k))
def zli (B : zB) (S : zS) (k i j : Nat) : za_E := match j with
  | 0 => .inr (0, [.int (B.2.2 k i), .ref (B.1 7 k i), .int (nI (S k i 0))])
  | 1 => za_OA (B.1 8 k i) (B.2.1 k i)
  | _ => .inl (.int, 0, .inl (fun _ => 0))
def zcon (B : zB) (S : zS) (T : zT) (r : zQ) : za_E := match r with
  | (0, i, j) => .inr (4, [.ref (B.1 0 10 0), .ref (B.1 0 11 0), .ref (B.1 0 12 0), .ref (B.1 0 13 0), .ref (B.1 0 14 0), .ref (B.1 1 i j), .int (nI (S 0 i j)), .int (nI (S 1 i j)), .int (nI (S 2 i j)), .int (nI (S 3 i j))])
  | (1, i, j) => .inr (3, [.int (nI (S 30 i j)), .int (nI (S 31 i j)), .int (z1 (S 32 i j)), .int (nI (S 33 i j)), .int (nI (S 34 i j))])
  | (2, i, j) => .inr (2, [.int (nI i), .int (nI (S 35 i j)), .int (nI (S 36 i j)), .ref (B.1 2 i j), .int (nI (S 37 i j))])
  | (3, i, j) => .inr (1, [.int (nI (S 38 i j)), .ref (B.1 3 i j), .int (nI (S 39 i j))])
  | (4, i, j) => .inr (1, [.int (nI (S 40 i j)), .int (nI (S 41 i j)), .int (nI (S 42 i j)), .int (nI (S 43 i j)), .int (nI (S 44 i j)), .int (nI (S 45 i j)), .int (nI (S 46 i j)), .int (nI i), .int (nI (S 47 i j))])
  | (5, i, j) => .inr (1, [.int (nI i), .int (nI (S 48 i j)), .int (nI (S 49 i j)), .int (nI (S 50 i j)), .ref (B.1 4 i j), .ref (B.1 5 i j), .int (nI (S 51 i j)), .int (nI (S 52 i j)), .int (nI (S 53 i j)), .int (nI (S 54 i j))])
  | (6, i, j) => .inr (1, [.ref (B.1 6 i j), .int (nI (S 55 i j)), .int (nI (S 56 i j)), .int (nI (S 57 i j)), .int (z1 (S 58 i j))])
  | (7, i, j) => .inr (1, [.int (nI (S 59 i j)), .int (nI (S 60 i j))])
  | (10, i, j) => zli B S 10 i j
  | (11, i, j) => zli B S 11 i j
  | (12, i, j) => zli B S 12 i j
  | (13, i, j) => zli B S 13 i j
  | (14, i, j) => zli B S 14 i j
  | (15, i, j) => zli B S 15 i j
  | (16, i, j) => zli B S 16 i j
  | (17, i, j) => zli B S 17 i j
  | (18, i, j) => zli B S 18 i j
  | (30, 0, 0) => .inr (9, zMf B T)
  | (31, k, 0) => zar T k
  | (90, 0, 0) => .inl (.long, 1, .inr (.inl T.2))
  | (_, _, _) => .inl (.int, B.1 11 0 0, .inl (T.1 91))
/-- the heap of a state; what has no role lies in r0 -/
def zmk (A : zA) (B : zB) (S : zS) (T : zT) (r0 : za_H) : za_H := fun a => match A.2 a with
  | some r => some (zcon B S T r)
  | none => r0 a
section ZST
variable {A : zA} {B B' : zB} {S S' : zS} {T T' : zT} {r0 : za_H}
theorem zmk_at {r : zQ} (h : zV A r) : zmk A B S T r0 (A.1 r) = some (zcon B S T r) := by unfold zmk; rw [h]
theorem zmk_no {q : Nat} (h : A.2 q = none) : zmk A B S T r0 q = r0 q := by unfold zmk; rw [h]
theorem zmk_nn {G : za_G} {q : Nat} (h : za_nn G (zmk A B S T r0) q) : A.2 q = none ∧ r0 q = none ∧ q ≠ G.t := by
  have h1 := h.1
  unfold zmk at h1
  split at h1
  · cases h1
  · rename_i e; exact ⟨e, h1, h.2⟩
theorem zmk_up (hf : zF A) {r : zQ} (hv : zV A r) {e : za_E} (he : zcon B' S' T' r = e) (ho : ∀ r', r' ≠ r → zcon B' S' T' r' = zcon B S T r') : za_up (zmk A B S T r0) (A.1 r) e = zmk A B' S' T' r0 := by
  funext a
  by_cases z : a = A.1 r
  · subst z; rw [za_up_s, zmk_at hv, he]
  · rw [za_up_n _ _ z]
    unfold zmk
    cases ha : A.2 a with
    | none => rfl
    | some r' =>
      show some _ = some _
      rw [ho r' (fun y => z (by rw [← y]; exact (hf _ _ ha).symm))]
theorem zmk_r0 {q : Nat} (h : A.2 q = none) {e : za_E} : za_up (zmk A B S T r0) q e = zmk A B S T (za_up r0 q e) := by
  funext a
  by_cases z : a = q
  · subst z; rw [za_up_s, zmk_no h, za_up_s]
  · rw [za_up_n _ _ z]
    unfold zmk
    cases ha : A.2 a with
    | none => exact (za_up_n _ _ z).symm
    | some r' => rfl
/-- what lies at q takes the role r -/
def zad (A : zA) (r : zQ) (q : Nat) : zA := (fun r' => if r' = r then q else A.1 r', fun a => if a = q then some r else if A.2 a = some r then none else A.2 a)
def zr0 (A : zA) (r : zQ) (e : za_E) (r0 : za_H) : za_H := fun a => if A.2 a = some r then some e else r0 a
theorem zad_s (A : zA) (r : zQ) (q : Nat) : (zad A r q).1 r = q := if_pos rfl
theorem zad_n (A : zA) {r r' : zQ} (q : Nat) (h : r' ≠ r) : (zad A r q).1 r' = A.1 r' := if_neg h
theorem zad_V (A : zA) (r : zQ) (q : Nat) : zV (zad A r q) r := by unfold zV; rw [zad_s]; exact if_pos rfl
theorem zad_Vn {r r' : zQ} {q : Nat} (hq : A.2 q = none) (h : r' ≠ r) : zV (zad A r q) r' ↔ zV A r' := by
  unfold zV
  rw [zad_n _ _ h]
  show (if A.1 r' = q then some r else if A.2 (A.1 r') = some r then none else A.2 (A.1 r')) = some r' ↔ _
  by_cases z : A.1 r' = q
  · rw [if_pos z, z, hq]
    exact ⟨fun y => absurd (Option.some.inj y).symm h, fun y => (by cases y)⟩
  · rw [if_neg z]
    by_cases y : A.2 (A.1 r') = some r
    · rw [if_pos y, y]
      exact ⟨fun x => (by cases x), fun x => absurd (Option.some.inj x).symm h⟩
    · rw [if_neg y]
theorem zad_F (hf : zF A) (r : zQ) (q : Nat) : zF (zad A r q) := by
  intro a r' h
  replace h : (if a = q then some r else if A.2 a = some r then none else A.2 a) = some r' := h
  by_cases z : a = q
  · rw [if_pos z] at h; cases h; rw [zad_s]; exact z.symm
  · rw [if_neg z] at h
    by_cases y : A.2 a = some r
    · rw [if_pos y] at h; cases h
    · rw [if_neg y] at h
      rw [zad_n _ _ (fun x => y (by rw [← x]; exact h))]
      exact hf _ _ h
theorem zad_no {r : zQ} {q a : Nat} (h : A.2 a = none) (n : a ≠ q) : (zad A r q).2 a = none := by
  show (if a = q then some r else if A.2 a = some r then none else A.2 a) = none
  rw [if_neg n, h]
  rfl
theorem zr0_no {r : zQ} {e : za_E} {a : Nat} (h : A.2 a = none) : zr0 A r e r0 a = r0 a := by
  unfold zr0
  rw [h]
  exact if_neg (fun z => by cases z)
theorem zmk_ad {r : zQ} {q : Nat} (hq : A.2 q = none) (he : r0 q = some (zcon B' S' T' r)) (ho : ∀ r', r' ≠ r → zcon B' S' T' r' = zcon B S T r') : zmk A B S T r0 = zmk (zad A r q) B' S' T' (zr0 A r (zcon B S T r) r0) := by
  funext a
  unfold zmk
  show _ = (match (if a = q then some r else if A.2 a = some r then none else A.2 a) with
    | some r => some (zcon B' S' T' r)
    | none => zr0 A r (zcon B S T r) r0 a)
  by_cases z : a = q
  · subst z
    rw [if_pos rfl, hq]
    exact he
  · rw [if_neg z]
    by_cases y : A.2 a = some r
    · rw [if_pos y, y]
      show some _ = zr0 A r (zcon B S T r) r0 a
      unfold zr0
      rw [if_pos y]
    · rw [if_neg y]
      cases ha : A.2 a with
      | none => exact (zr0_no ha).symm
      | some r' =>
        show some _ = some _
        rw [ho r' (fun x => y (by rw [ha, x]))]
end ZST
/-- the kind of a role that a field of the class belongs to -/
def zkd (f : Nat) : Nat := if f ≤ 3 then 0 else if f ≤ 18 then f else if f ≤ 29 then 99 else if f ≤ 34 then 1 else if f ≤ 37 then 2 else if f ≤ 39 then 3 else if f ≤ 47 then 4 else if f ≤ 54 then 5 else if f ≤ 58 then 6 else 7
theorem zcon_eq {B : zB} {S S' : zS} {T : zT} {r : zQ} (h : ∀ f, zkd f = r.1 → S' f r.2.1 r.2.2 = S f r.2.1 r.2.2) : zcon B S' T r = zcon B S T r := by
  obtain ⟨k, i, j⟩ := r
  unfold zcon
  split
  · rename_i e; cases e; rw [show S' 0 i j = S 0 i j from h 0 rfl, show S' 1 i j = S 1 i j from h 1 rfl, show S' 2 i j = S 2 i j from h 2 rfl, show S' 3 i j = S 3 i j from h 3 rfl]
  · rename_i e; cases e; rw [show S' 30 i j = S 30 i j from h 30 rfl, show S' 31 i j = S 31 i j from h 31 rfl, show S' 32 i j = S 32 i j from h 32 rfl, show S' 33 i j = S 33 i j from h 33 rfl, show S' 34 i j = S 34 i j from h 34 rfl]
  · rename_i e; cases e; rw [show S' 35 i j = S 35 i j from h 35 rfl, show S' 36 i j = S 36 i j from h 36 rfl, show S' 37 i j = S 37 i j from h 37 rfl]
  · rename_i e; cases e; rw [show S' 38 i j = S 38 i j from h 38 rfl, show S' 39 i j = S 39 i j from h 39 rfl]
  · rename_i e; cases e; rw [show S' 40 i j = S 40 i j from h 40 rfl, show S' 41 i j = S 41 i j from h 41 rfl, show S' 42 i j = S 42 i j from h 42 rfl, show S' 43 i j = S 43 i j from h 43 rfl, show S' 44 i j = S 44 i j from h 44 rfl, show S' 45 i j = S 45 i j from h 45 rfl, show S' 46 i j = S 46 i j from h 46 rfl, show S' 47 i j = S 47 i j from h 47 rfl]
  · rename_i e; cases e; rw [show S' 48 i j = S 48 i j from h 48 rfl, show S' 49 i j = S 49 i j from h 49 rfl, show S' 50 i j = S 50 i j from h 50 rfl, show S' 51 i j = S 51 i j from h 51 rfl, show S' 52 i j = S 52 i j from h 52 rfl, show S' 53 i j = S 53 i j from h 53 rfl, show S' 54 i j = S 54 i j from h 54 rfl]
  · rename_i e; cases e; rw [show S' 55 i j = S 55 i j from h 55 rfl, show S' 56 i j = S 56 i j from h 56 rfl, show S' 57 i j = S 57 i j from h 57 rfl, show S' 58 i j = S 58 i j from h 58 rfl]
  · rename_i e; cases e; rw [show S' 59 i j = S 59 i j from h 59 rfl, show S' 60 i j = S 60 i j from h 60 rfl]
  · rename_i e; cases e; unfold zli; split
    · rw [show S' 10 i 0 = S 10 i 0 from h 10 rfl]
    · rfl
    · rfl
  · rename_i e; cases e; unfold zli; split
    · rw [show S' 11 i 0 = S 11 i 0 from h 11 rfl]
    · rfl
    · rfl
  · rename_i e; cases e; unfold zli; split
    · rw [show S' 12 i 0 = S 12 i 0 from h 12 rfl]
    · rfl
    · rfl
  · rename_i e; cases e; unfold zli; split
    · rw [show S' 13 i 0 = S 13 i 0 from h 13 rfl]
    · rfl
    · rfl
  · rename_i e; cases e; unfold zli; split
    · rw [show S' 14 i 0 = S 14 i 0 from h 14 rfl]
    · rfl
    · rfl
  · rename_i e; cases e; unfold zli; split
    · rw [show S' 15 i 0 = S 15 i 0 from h 15 rfl]
    · rfl
    · rfl
  · rename_i e; cases e; unfold zli; split
    · rw [show S' 16 i 0 = S 16 i 0 from h 16 rfl]
    · rfl
    · rfl
  · rename_i e; cases e; unfold zli; split
    · rw [show S' 17 i 0 = S 17 i 0 from h 17 rfl]
    · rfl
    · rfl
  · rename_i e; cases e; unfold zli; split
    · rw [show S' 18 i 0 = S 18 i 0 from h 18 rfl]
    · rfl
    · rfl
  · rfl
  · rfl
  · rfl
  · rfl
theorem zcon_zup {B : zB} {S : zS} {T : zT} {f i j v : Nat} {r : zQ} (h : r ≠ (zkd f, i, j)) : zcon B (zup S f i j v) T r = zcon B S T r :=
  zcon_eq fun f' hf => zup_n S fun z => h (by obtain ⟨rfl, h2, h3⟩ := z; obtain ⟨k, i', j'⟩ := r; cases hf; cases h2; cases h3; rfl)
/-- a store into a field -/
theorem zst {A : zA} {B : zB} {S : zS} {T : zT} {r0 : za_H} (hf : zF A) {f i j v : Nat} (hv : zV A (zkd f, i, j)) {e : za_E} (he : zcon B (zup S f i j v) T (zkd f, i, j) = e) : za_up (zmk A B S T r0) (A.1 (zkd f, i, j)) e = zmk A B (zup S f i j v) T r0 :=
  zmk_up hf hv he fun _ h => zcon_zup h
