/-! THE LAW (12): the invariant over the calls, and what a yes or no is -/
section ZTA
variable {S : zS}
theorem vs_campaign (V : zinv S) (x1 x2 x3 x4 x5 x6 x7 : Int32) : zinv (sp_campaign S x1 x2 x3 x4 x5 x6 x7).2.2 := by
  obtain ⟨g1, g2, g3, g4, g5⟩ := zv_2 V
  unfold sp_campaign
  split
  · exact V
  · rename_i h
    have h : zokc x1 x2 x3 x4 x5 x6 x7 := (zokb_t x1 x2 x3 x4 x5 x6 x7).mp ((Bool.not_eq_false _).mp h)
    obtain ⟨⟨a1, a2⟩, ⟨b1, b2⟩, ⟨c1, c2⟩, ⟨d1, d2⟩, ⟨e1, e2⟩, ⟨f1, f2⟩, ⟨h1, h2⟩⟩ := h
    split
    · exact V
    · exact zV_camp V (by omega) (by omega) (by omega) (by omega) (by omega) (by omega) (by omega) (by omega)
theorem vs_bot (V : zinv S) (x y : Int32) : zinv (sp_bot S x y).2.2 := by
  have hb := (zv_1 V).2.2.1
  unfold sp_bot
  split
  · exact V
  · rename_i h
    split
    · exact zV_bot V (Nat.lt_of_le_of_lt (zclr_le _ _) hb)
    · exact zV_bot V (Nat.or_lt_two_pow (n := 10) hb (Nat.pow_lt_pow_right (by omega) (by omega)))
theorem zn10 : (nI 1 = nI 0) = False := eq_false (by decide +kernel)
theorem zb_bot (S : zS) (x y : Int32) : (sp_bot S x y).2.1 = nI 0 ∨ (sp_bot S x y).2.1 = nI 1 := by
  unfold sp_bot
  split
  · exact Or.inl rfl
  · exact zb_01 _
theorem zb_tell (S : zS) (x y : Int32) : (sp_tell S x y).2.1 = nI 0 ∨ (sp_tell S x y).2.1 = nI 1 := by
  unfold sp_tell
  split
  · exact Or.inl rfl
  · exact zb_01 _
theorem zb_isOwed (S : zS) (x y : Int32) : (sp_isOwed S x y).2.1 = nI 0 ∨ (sp_isOwed S x y).2.1 = nI 1 := by
  unfold sp_isOwed
  split
  · exact Or.inl rfl
  · exact zb_01 _
theorem zb_counts (S : zS) (x y : Int32) : (sp_counts S x y).2.1 = nI 0 ∨ (sp_counts S x y).2.1 = nI 1 := by
  unfold sp_counts
  split
  · exact Or.inl rfl
  · split
    · exact Or.inl rfl
    · exact zb_01 _
end ZTA
