/-! THE LAW (11): the invariant over the calls -/
section ZSZ
variable {S : zS}
theorem vs_app (V : zinv S) (x : Int32) : zinv (sp_app S x).2.2 := by
  unfold sp_app
  split
  · exact V
  · split
    · exact V
    · exact zV_app V (by omega) (by omega)
theorem vs_poll (V : zinv S) (x : Int32) : zinv (sp_poll S x).2.2 := by
  unfold sp_poll
  split
  · exact V
  · exact zV_poll V (by omega)
theorem vs_load (V : zinv S) (x y z : Int32) : zinv (sp_load S x y z).2.2 := by
  unfold sp_load
  split
  · exact V
  · split
    · exact V
    · split
      · exact V
      · exact zV_load V (by omega) (by omega) (by omega) (by omega)
theorem vs_pass (V : zinv S) (h11 : S 11 0 0 ≤ 900) (x : Int32) : zinv (sp_pass S x).2.2 := by
  unfold sp_pass
  split
  · exact V
  · split
    · exact V
    · exact zV_pass V (by omega) _ (by omega)
theorem vs_songOut (V : zinv S) (h11 : S 11 0 0 ≤ 900) (x : Int32) : zinv (sp_songOut S x).2.2 := by
  unfold sp_songOut
  split
  · exact V
  · split
    · exact V
    · exact zV_songOut V (by omega) (by omega)
theorem vs_tell (V : zinv S) (x y : Int32) : zinv (sp_tell S x y).2.2 := by
  unfold sp_tell
  split
  · exact V
  · exact zV_tl V (by omega) (by omega) _ (Nat.le_refl _)
theorem vs_ask (V : zinv S) (x y : Int32) : zinv (sp_ask S x y).2.2 := by
  have g := (zv_2 V).2.2.2.1
  unfold sp_ask
  split
  · exact V
  · split
    · exact V
    · exact zV_ask V (by omega) (by omega) (by omega)
theorem vs_withdraw (V : zinv S) (h11 : S 11 0 0 ≤ 900) (x : Int32) : zinv (sp_withdraw S x).2.2 := by
  unfold sp_withdraw
  split
  · exact V
  · split
    · exact V
    · exact zV_note (zV_37 V (by omega)) (by rw [zup_o _ (by omega)]; omega) (by rw [zup_o _ (by omega)]; omega)
theorem vs_cut (V : zinv S) (h11 : S 11 0 0 ≤ 900) (x y : Int32) : zinv (sp_cut S x y).2.2 := by
  unfold sp_cut
  split
  · exact V
  · split
    · exact V
    · exact zV_note (zV_33 V (by omega) (by omega) (by omega) (by omega)) (by rw [zup_o _ (by omega)]; omega) (by rw [zup_o _ (by omega)]; omega)
theorem vs_item (V : zinv S) (h11 : S 11 0 0 ≤ 900) (x y : Int32) : zinv (sp_item S x y).2.2 := by
  unfold sp_item
  split
  · exact V
  · split
    · exact V
    · split
      · exact V
      · rename_i h
        have hu : zuse S (S 15 (S 10 0 0) 0) 0 = true := Decidable.byContradiction fun y => h (Or.inl ((Bool.not_eq_true _).mp y))
        refine zV_note (zV_item V (by omega) (by omega) (by omega) hu) ?_ ?_
        · rw [zcut_o _ _ (by omega) (by omega)]
          show S 10 0 0 < zitem S _ _ 10 0 0
          unfold zitem
          rw [zup_s]; omega
        · rw [zcut_o _ _ (by omega) (by omega), zitem_o _ _ _ (by omega) (by omega) (by omega) (by omega) (by omega)]; omega
end ZSZ
