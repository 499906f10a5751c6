/-! THE CALLS (31): ask, the relation while a download is made -/
section ZSI
variable {S S' : zS} {T T0 T' T2 : zT} {d : Nat}
theorem zR_ask0 (R : zR S T0) (h14 : S 14 0 0 = d) (h19 : S 19 0 0 = d) (hd : d < 60) {x i : Nat} : zR (zh1 (zask S x i) d) (ztu (ztu (ztu (ztu T0 35 (upd (T0.1 35) d (nI x))) 36 (upd (T0.1 36) d (nI i))) 37 (upd (T0.1 37) d (nI (S 0 0 0)))) 34 (zfc (nI (d + 1)))) := by
  obtain ⟨s17, s18, s48, s49, s50, s51, s52, s53, s54⟩ := zask_s S x i
  rw [h19] at s17 s18 s48 s49 s50 s51 s52 s53 s54
  have e14 := zh1_14 (zask S x i) d
  have ho : ∀ f, f ≠ 14 → zh1 (zask S x i) d f = zask S x i f := fun f h => zh1_o _ d h
  have hfo : ∀ f, f ∉ [14, 17, 18, 19, 48, 49, 50, 51, 52, 53, 54] → zh1 (zask S x i) d f = S f := fun f hf => by
    simp only [List.mem_cons, List.not_mem_nil, or_false, not_or] at hf
    rw [ho f hf.1, zask_o S x i (by omega) (by omega) (by omega) (by omega)]
  have en : ∀ f e, f ≠ 14 → f ≠ 19 → e ≠ d → zh1 (zask S x i) d f e = S f e := fun f e h1 h2 he => by
    rw [ho f h1, zask_n S x i h2 (by omega)]
  rw [← ho 17 (by omega)] at s17
  rw [← ho 18 (by omega)] at s18
  rw [← ho 48 (by omega)] at s48
  rw [← ho 49 (by omega)] at s49
  rw [← ho 50 (by omega)] at s50
  rw [← ho 51 (by omega)] at s51
  rw [← ho 52 (by omega)] at s52
  have hT : ∀ k, k ∉ [34, 35, 36, 37] → (ztu (ztu (ztu (ztu T0 35 (upd (T0.1 35) d (nI x))) 36 (upd (T0.1 36) d (nI i))) 37 (upd (T0.1 37) d (nI (S 0 0 0)))) 34 (zfc (nI (d + 1)))).1 k = T0.1 k := fun k hk => by
    simp only [List.mem_cons, List.not_mem_nil, or_false, not_or] at hk
    rw [ztu_ne _ _ (by omega), ztu_ne _ _ (by omega), ztu_ne _ _ (by omega), ztu_ne _ _ (by omega)]
  have t34 : (ztu (ztu (ztu (ztu T0 35 (upd (T0.1 35) d (nI x))) 36 (upd (T0.1 36) d (nI i))) 37 (upd (T0.1 37) d (nI (S 0 0 0)))) 34 (zfc (nI (d + 1)))).1 34 0 = nI (d + 1) := by rw [ztu_s]; rfl
  have t35 : (ztu (ztu (ztu (ztu T0 35 (upd (T0.1 35) d (nI x))) 36 (upd (T0.1 36) d (nI i))) 37 (upd (T0.1 37) d (nI (S 0 0 0)))) 34 (zfc (nI (d + 1)))).1 35 = upd (T0.1 35) d (nI x) := by rw [ztu_ne _ _ (by omega), ztu_ne _ _ (by omega), ztu_ne _ _ (by omega), ztu_s]
  have t36 : (ztu (ztu (ztu (ztu T0 35 (upd (T0.1 35) d (nI x))) 36 (upd (T0.1 36) d (nI i))) 37 (upd (T0.1 37) d (nI (S 0 0 0)))) 34 (zfc (nI (d + 1)))).1 36 = upd (T0.1 36) d (nI i) := by rw [ztu_ne _ _ (by omega), ztu_ne _ _ (by omega), ztu_s]
  have t37 : (ztu (ztu (ztu (ztu T0 35 (upd (T0.1 35) d (nI x))) 36 (upd (T0.1 36) d (nI i))) 37 (upd (T0.1 37) d (nI (S 0 0 0)))) 34 (zfc (nI (d + 1)))).1 37 = upd (T0.1 37) d (nI (S 0 0 0)) := by rw [ztu_ne _ _ (by omega), ztu_s]
  generalize ztu (ztu (ztu (ztu T0 35 (upd (T0.1 35) d (nI x))) 36 (upd (T0.1 36) d (nI i))) 37 (upd (T0.1 37) d (nI (S 0 0 0)))) 34 (zfc (nI (d + 1))) = T' at *
  generalize zh1 (zask S x i) d = P at *
  refine ⟨zR_go R.1 [14, 17, 18, 19, 48, 49, 50, 51, 52, 53, 54] [34, 35, 36, 37] [34, 35, 36, 37, 38, 39, 40, 41, 42, 43] hfo hT (by decide) ?_, fun e s he hs => ?_⟩
  · intro k hk
    simp only [List.mem_cons, List.not_mem_nil, or_false] at hk
    rcases hk with rfl | rfl | rfl | rfl | rfl | rfl | rfl | rfl | rfl | rfl
    · show T'.1 34 0 = nI (P 14 0 0)
      rw [t34, e14]
    · show ∀ e, e < P 14 0 0 → T'.1 35 e = nI (P 48 e 0)
      rw [t35, e14]
      intro e he
      by_cases z : e = d
      · subst z; rw [zupd_s, s48]
      · rw [zupd_n _ _ z, en 48 e (by omega) (by omega) z]; exact zr_35 R e (by omega)
    · show ∀ e, e < P 14 0 0 → T'.1 36 e = nI (P 49 e 0)
      rw [t36, e14]
      intro e he
      by_cases z : e = d
      · subst z; rw [zupd_s, s49]
      · rw [zupd_n _ _ z, en 49 e (by omega) (by omega) z]; exact zr_36 R e (by omega)
    · show ∀ e, e < P 14 0 0 → T'.1 37 e = nI (P 50 e 0)
      rw [t37, e14]
      intro e he
      by_cases z : e = d
      · subst z; rw [zupd_s, s50]
      · rw [zupd_n _ _ z, en 50 e (by omega) (by omega) z]; exact zr_37 R e (by omega)
    · show ∀ e, e < 60 → T'.1 38 e = nI (if e < P 14 0 0 then P 17 e 0 else 0)
      rw [hT 38 (by decide), e14]
      intro e he
      rw [zr_38 R e he, h14]
      congr 1
      by_cases z : e = d
      · subst z; rw [if_neg (by omega), if_pos (by omega), s17]
      · by_cases y : e < d
        · rw [if_pos y, if_pos (by omega), en 17 e (by omega) (by omega) z]
        · rw [if_neg y, if_neg (by omega)]
    · show ∀ e, e < 60 → T'.1 39 e = nI (if e < P 14 0 0 then P 51 e 0 else 0)
      rw [hT 39 (by decide), e14]
      intro e he
      rw [zr_39 R e he, h14]
      congr 1
      by_cases z : e = d
      · subst z; rw [if_neg (by omega), if_pos (by omega), s51]
      · by_cases y : e < d
        · rw [if_pos y, if_pos (by omega), en 51 e (by omega) (by omega) z]
        · rw [if_neg y, if_neg (by omega)]
    · show ∀ e k, e < P 14 0 0 → k < P 17 e 0 → T'.1 40 (10 * e + k) = nI (P 55 e k)
      rw [hT 40 (by decide), e14, hfo 55 (by decide)]
      intro e k he hk
      by_cases z : e = d
      · subst z; rw [s17] at hk; omega
      · rw [en 17 e (by omega) (by omega) z] at hk; exact zr_40 R e k (by omega) hk
    · show ∀ e k, e < P 14 0 0 → k < P 17 e 0 → T'.1 41 (10 * e + k) = z1 (P 58 e k)
      rw [hT 41 (by decide), e14, hfo 58 (by decide)]
      intro e k he hk
      by_cases z : e = d
      · subst z; rw [s17] at hk; omega
      · rw [en 17 e (by omega) (by omega) z] at hk; exact zr_41 R e k (by omega) hk
    · show ∀ e, e < 60 → T'.1 42 e = nI (if e < P 14 0 0 then P 52 e 0 else 0)
      rw [hT 42 (by decide), e14]
      intro e he
      rw [zr_42 R e he, h14]
      congr 1
      by_cases z : e = d
      · subst z; rw [if_neg (by omega), if_pos (by omega), s52]
      · by_cases y : e < d
        · rw [if_pos y, if_pos (by omega), en 52 e (by omega) (by omega) z]
        · rw [if_neg y, if_neg (by omega)]
    · show ∀ e s, e < 60 → s < 10000 → T'.1 43 (10000 * e + s) = zb (decide (e < P 14 0 0) && zld P e s (P 18 e 0))
      rw [hT 43 (by decide), e14]
      intro e s he hs
      rw [zr_43 R e s he hs, h14, zld_S (hfo 59 (by decide)) (hfo 60 (by decide))]
      by_cases z : e = d
      · subst z; rw [s18, decide_eq_false (Nat.lt_irrefl e), Bool.false_and, show zld S e s 0 = false from rfl, Bool.and_false]
      · rw [en 18 e (by omega) (by omega) z]
        congr 2
        exact decide_eq_decide.mpr (by omega)
  · rw [e14, hfo 3 (by decide), zmr_T (hT 46 (by decide)) (hT 47 (by decide)) (hT 48 (by decide)), zld_S (hfo 59 (by decide)) (hfo 60 (by decide)), R.2 e s he hs, h14]
    by_cases z : e = d
    · subst z; rw [s18, decide_eq_false (Nat.lt_irrefl e), Bool.false_and, show zld S e s 0 = false from rfl, Bool.and_false]
    · rw [en 18 e (by omega) (by omega) z]
      congr 1
      exact decide_eq_decide.mpr (by omega)
theorem zR_add (R : zR (zh1 S d) T') (hd : d < 60) (h14 : S 14 0 0 = d) {i j : Nat} (h17 : ∀ e, e ≤ d → S 17 e 0 ≤ 10) (h17d : S 17 d 0 < 10) (q0 : ∀ k, k ∉ [31, 38, 39, 40, 41] → T2.1 k = T'.1 k) (q40 : T2.1 40 = upd (T'.1 40) (10 * d + S 17 d 0) (nI j)) (q41 : T2.1 41 = upd (T'.1 41) (10 * d + S 17 d 0) (z1 (zadc S d i j))) (q39 : T2.1 39 = upd (T'.1 39) d (nI (S 51 d 0 + zlen S d i j))) (q38 : T2.1 38 = upd (T'.1 38) d (nI (S 17 d 0 + 1))) (q31 : ∀ c, c < 8 → T2.1 31 c = nI (if c < S 13 0 0 then (if zadc S d i j = c + 1 then S 47 c 0 + 1 else S 47 c 0) else 0)) : zR (zh1 (zadd S d i j) d) T2 := by
  obtain ⟨⟨e17, e51, e55, e56, e57, e58, e53, e54, e47⟩, en, ek⟩ := zadd_e S d i j
  have e14 := zh1_14 (zadd S d i j) d
  have b14 := zh1_14 S d
  have hP : ∀ f, f ≠ 14 → zh1 S d f = S f := fun f h => zh1_o S d h
  have hQ : ∀ f, f ≠ 14 → zh1 (zadd S d i j) d f = zadd S d i j f := fun f h => zh1_o _ d h
  have hko : ∀ f, zkeep f → zadd S d i j f = S f := fun f h => zadd_o S d i j h
  have hfo : ∀ f, f ∉ [47, 53, 54, 55, 56, 57, 58, 17, 51] → zh1 (zadd S d i j) d f = zh1 S d f := fun f hf => by
    simp only [List.mem_cons, List.not_mem_nil, or_false, not_or] at hf
    by_cases z : f = 14
    · subst z
      unfold zh1
      funext a b
      unfold zup
      rw [hko 14 ⟨by omega, by omega, by omega, by omega⟩]
    · rw [hQ f z, hP f z, hko f ⟨by omega, by omega, by omega, by omega⟩]
  refine ⟨zR_go R.1 [47, 53, 54, 55, 56, 57, 58, 17, 51] [31, 38, 39, 40, 41] [31, 38, 39, 40, 41] hfo q0 (by decide) ?_, fun e s he hs => ?_⟩
  · intro k hk
    simp only [List.mem_cons, List.not_mem_nil, or_false] at hk
    rcases hk with rfl | rfl | rfl | rfl | rfl
    · show ∀ c, c < 8 → T2.1 31 c = nI (if c < zh1 (zadd S d i j) d 13 0 0 then zh1 (zadd S d i j) d 47 c 0 else 0)
      rw [hfo 13 (by decide), hP 13 (by omega), hQ 47 (by omega)]
      intro c hc
      rw [q31 c hc, e47]
    · show ∀ e, e < 60 → T2.1 38 e = nI (if e < zh1 (zadd S d i j) d 14 0 0 then zh1 (zadd S d i j) d 17 e 0 else 0)
      rw [q38, e14, hQ 17 (by omega)]
      intro e he
      by_cases z : e = d
      · subst z; rw [zupd_s, if_pos (by omega), e17]
      · rw [zupd_n _ _ z, zr_38 R e he, b14, hP 17 (by omega), en 17 e (by omega) z]
    · show ∀ e, e < 60 → T2.1 39 e = nI (if e < zh1 (zadd S d i j) d 14 0 0 then zh1 (zadd S d i j) d 51 e 0 else 0)
      rw [q39, e14, hQ 51 (by omega)]
      intro e he
      by_cases z : e = d
      · subst z; rw [zupd_s, if_pos (by omega), e51]
      · rw [zupd_n _ _ z, zr_39 R e he, b14, hP 51 (by omega), en 51 e (by omega) z]
    · show ∀ e k, e < zh1 (zadd S d i j) d 14 0 0 → k < zh1 (zadd S d i j) d 17 e 0 → T2.1 40 (10 * e + k) = nI (zh1 (zadd S d i j) d 55 e k)
      rw [q40, e14, hQ 17 (by omega), hQ 55 (by omega)]
      intro e k he hk
      have this := fun h => zr_40 R e k (by rw [b14]; exact he) h
      rw [hP 17 (by omega), hP 55 (by omega)] at this
      have hb := h17 e (by omega)
      by_cases z : e = d
      · subst z
        rw [e17] at hk
        by_cases y : k = S 17 e 0
        · subst y; rw [zupd_s, e55]
        · rw [zupd_n _ _ (by omega), ek 55 k (by omega) y]; exact this (by omega)
      · rw [en 17 e (by omega) z] at hk
        rw [zupd_n _ _ (by omega), en 55 e (by omega) z]; exact this hk
    · show ∀ e k, e < zh1 (zadd S d i j) d 14 0 0 → k < zh1 (zadd S d i j) d 17 e 0 → T2.1 41 (10 * e + k) = z1 (zh1 (zadd S d i j) d 58 e k)
      rw [q41, e14, hQ 17 (by omega), hQ 58 (by omega)]
      intro e k he hk
      have this := fun h => zr_41 R e k (by rw [b14]; exact he) h
      rw [hP 17 (by omega), hP 58 (by omega)] at this
      have hb := h17 e (by omega)
      by_cases z : e = d
      · subst z
        rw [e17] at hk
        by_cases y : k = S 17 e 0
        · subst y; rw [zupd_s, e58]
        · rw [zupd_n _ _ (by omega), ek 58 k (by omega) y]; exact this (by omega)
      · rw [en 17 e (by omega) z] at hk
        rw [zupd_n _ _ (by omega), en 58 e (by omega) z]; exact this hk
  · rw [hfo 14 (by decide), hfo 3 (by decide), hfo 18 (by decide), zmr_T (q0 46 (by decide)) (q0 47 (by decide)) (q0 48 (by decide)), zld_S (hfo 59 (by decide)) (hfo 60 (by decide))]
    exact R.2 e s he hs
end ZSI
