/-! THE LAW (1): what the model's calls leave alone -/
section ZSO
/-- the numbers of the model's fields from T', all else from T -/
def zkp (T T' : zT) : zT := (fun k => if k < 50 then T'.1 k else T.1 k, T.2)
theorem zkp_r (T : zT) : zkp T T = T := by
  unfold zkp
  have : (fun k => if k < 50 then T.1 k else T.1 k) = T.1 := by funext k; split <;> rfl
  rw [this]
/-- the model's roles -/
def zkr (r : zQ) : Bool := match r with
  | (30, 0, 0) => true
  | (31, k, 0) => decide (k < 50)
  | _ => false
def zkA (A : zA) : zA := (A.1, fun a => match A.2 a with
  | some r => if zkr r = true then some r else none
  | none => none)
def zk0 (A : zA) (B : zB) (S : zS) (T : zT) (r0 : za_H) : za_H := fun a => match A.2 a with
  | some r => if zkr r = true then r0 a else some (zcon B S T r)
  | none => r0 a
variable {G : za_G} {A : zA} {B : zB} {S S' : zS} {T T' : zT} {r0 : za_H}
theorem zcon_kp (r : zQ) : zcon B S (zkp T T') r = if zkr r = true then zcon B S T' r else zcon B S T r := by
  have fz : ∀ k, k < 50 → zmv B (zkp T T') k = zmv B T' k := fun k hk => by
    unfold zmv
    show (if zms k = true then Value.int ((if k < 50 then T'.1 k else T.1 k) 0) else _) = _
    rw [if_pos hk]
  have fm : zMf B (zkp T T') = zMf B T' := List.map_congr_left (fun k hk => fz k (List.mem_range.mp hk))
  have fr : ∀ k, zar (zkp T T') k = if k < 50 then zar T' k else zar T k := fun k => by
    by_cases hk : k < 50
    · rw [if_pos hk]
      have : (zkp T T').1 k = T'.1 k := if_pos hk
      unfold zar; rw [this]
    · rw [if_neg hk]
      have : (zkp T T').1 k = T.1 k := if_neg hk
      unfold zar; rw [this]
  unfold zkr
  split
  · rw [if_pos rfl]
    show (Sum.inr (9, zMf B (zkp T T')) : za_E) = Sum.inr (9, zMf B T')
    rw [fm]
  · rename_i k
    show zar (zkp T T') k = if decide (k < 50) = true then zar T' k else zar T k
    rw [fr]
    by_cases hk : k < 50
    · rw [if_pos hk, if_pos (decide_eq_true hk)]
    · rw [if_neg hk, if_neg (fun y => hk (of_decide_eq_true y))]
  · rename_i h1 h2
    rw [if_neg (fun y => by cases y)]
    have h91 : (zkp T T').1 91 = T.1 91 := by
      show (if (91 : Nat) < 50 then T'.1 91 else T.1 91) = _
      exact if_neg (by omega)
    unfold zcon
    split <;> first
      | rfl
      | exact absurd rfl (h1 _)
      | (exfalso; exact h1 rfl)
      | (exfalso; exact h2 _ rfl)
      | (show (Sum.inl (.int, B.1 11 0 0, .inl ((zkp T T').1 91)) : za_E) = _; rw [h91])
theorem zkA_eq : zmk (zkA A) B S T' (zk0 A B S T r0) = zmk A B S (zkp T T') r0 := by
  funext a
  unfold zmk zkA zk0
  dsimp only
  cases h : A.2 a with
  | none => rfl
  | some r =>
    show (match (if zkr r = true then some r else none) with
      | some r => some (zcon B S T' r)
      | none => if zkr r = true then r0 a else some (zcon B S T r)) = some (zcon B S (zkp T T') r)
    rw [zcon_kp]
    by_cases z : zkr r = true
    · rw [if_pos z, if_pos z, if_pos z]
    · rw [if_neg z, if_neg z, if_neg z]
theorem zkA_o (M : zMo A B) : zMo (zkA A) B := by
  obtain ⟨hf, m1, m2⟩ := M
  have hv : ∀ r, zkr r = true → zV A r → zV (zkA A) r := fun r hr h => by
    show (match A.2 (A.1 r) with
      | some r => if zkr r = true then some r else none
      | none => none) = some r
    have h : A.2 (A.1 r) = some r := h
    rw [h]
    exact if_pos hr
  refine ⟨fun q r h => hf q r ?_, hv _ rfl m1, fun k hk hs => ⟨hv _ (decide_eq_true hk) (m2 k hk hs).1, (m2 k hk hs).2⟩⟩
  have h : (match A.2 q with
      | some r => if zkr r = true then some r else none
      | none => none) = some r := h
  split at h
  · rename_i r' e
    split at h
    · rw [e]; exact h
    · cases h
  · cases h
theorem zkp_R (R : zR S T') : zR S (zkp T T') := by
  refine ⟨fun k => ?_, fun d s hd hs => ?_⟩
  · by_cases hk : k < 50
    · have : (zkp T T').1 k = T'.1 k := if_pos hk
      rw [this]; exact R.1 k
    · unfold zW
      split <;> first | (exfalso; exact hk (by omega)) | trivial
  · have : zmr (zkp T T') d s (S 3 0 0) = zmr T' d s (S 3 0 0) := by
      have h3 : ∀ n, zmr (zkp T T') d s n = zmr T' d s n := fun n => by
        induction n with
        | zero => rfl
        | succ n ih => unfold zmr; rw [ih]; rfl
      exact h3 _
    rw [this]; exact R.2 d s hd hs
/-- a call of the model: the rest of the heap stays -/
theorem n_keep {m : za_M} {as : List Value} {mc ms : Nat} {K : za_O → za_H → Prop} (h : za_P G m as (zmk (zkA A) B S T (zk0 A B S T r0)) mc ms K) : za_P G m as (zmk A B S T r0) mc ms K := by
  rw [zkA_eq, zkp_r] at h
  exact h
theorem zX_refl : zX A B A B := ⟨fun r _ => ⟨rfl, id⟩, rfl, rfl, fun r _ _ h => ⟨rfl, h⟩⟩
end ZSO
