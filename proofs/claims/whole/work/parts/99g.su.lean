/-! THE LAW (7): the rest against the potential; the number thrown -/
section ZSU7
variable {S S' : zS}
theorem zp_poll (S : zS) (x : Int32) : zpot (sp_poll S x).2.2 ≤ zpot S + 1 := by
  unfold sp_poll
  split
  · exact Nat.le_succ _
  · show zpot (zpoll S _) ≤ _
    unfold zpoll
    refine zle1 (zpot_o ?_ ?_ ?_ ?_ ?_) <;> (rw [zup_o _ (by omega)]; exact zpl_o _ _ _ _ (by omega) (by omega))
theorem zp_ask (S : zS) (x y : Int32) : zpot (sp_ask S x y).2.2 ≤ zpot S + 1 := by
  unfold sp_ask
  split
  · exact Nat.le_succ _
  · split
    · exact Nat.le_succ _
    · show zpot (zaskd S _ _) ≤ _
      unfold zaskd
      refine zle1 (zpot_o ?_ ?_ ?_ ?_ ?_) <;> (rw [zup_o _ (by omega), zfill_o _ _ _ _ ⟨by omega, by omega, by omega, by omega⟩]; exact zask_o _ _ _ (by omega) (by omega) (by omega) (by omega))
theorem zp_ofItem (S : zS) (x y : Int32) : (sp_ofItem S x y).2.2 = S := by
  unfold sp_ofItem
  repeat' split
  all_goals rfl
theorem zp_ofPart (S : zS) (x y z : Int32) : (sp_ofPart S x y z).2.2 = S := by
  unfold sp_ofPart
  repeat' split
  all_goals rfl
theorem zp_told (S : zS) (x y : Int32) : (sp_told S x y).2.2 = S := by
  unfold sp_told
  repeat' split
  all_goals rfl
theorem zp_ofCampaign (S : zS) (x y : Int32) : (sp_ofCampaign S x y).2.2 = S := by
  unfold sp_ofCampaign
  repeat' split
  all_goals rfl
theorem zp_ofDownload (S : zS) (x y : Int32) : (sp_ofDownload S x y).2.2 = S := by
  unfold sp_ofDownload
  repeat' split
  all_goals rfl
theorem zp_ad (S : zS) (x y : Int32) : (sp_ad S x y).2.2 = S := by
  unfold sp_ad
  repeat' split
  all_goals rfl
theorem zp_loadedAnew (S : zS) (x : Int32) : (sp_loadedAnew S x).2.2 = S := by
  unfold sp_loadedAnew
  repeat' split
  all_goals rfl
theorem zp_counts (S : zS) (x y : Int32) : (sp_counts S x y).2.2 = S := by
  unfold sp_counts
  repeat' split
  all_goals rfl
theorem zp_count (S : zS) (x y : Int32) : (sp_count S x y).2.2 = S := by
  unfold sp_count
  repeat' split
  all_goals rfl
theorem zp_isOwed (S : zS) (x y : Int32) : (sp_isOwed S x y).2.2 = S := by
  unfold sp_isOwed
  repeat' split
  all_goals rfl
theorem zk_talk (S : zS) (x1 : Int32) : (sp_talk S x1).1 ≤ 3 := by
  unfold sp_talk
  repeat' split
  all_goals exact Nat.le_of_ble_eq_true rfl
theorem zk_slot (S : zS) (x1 : Int32) : (sp_slot S x1).1 ≤ 3 := by
  unfold sp_slot
  repeat' split
  all_goals exact Nat.le_of_ble_eq_true rfl
theorem zk_music (S : zS) (x1 x2 : Int32) : (sp_music S x1 x2).1 ≤ 3 := by
  unfold sp_music
  repeat' split
  all_goals exact Nat.le_of_ble_eq_true rfl
theorem zk_item (S : zS) (x1 x2 : Int32) : (sp_item S x1 x2).1 ≤ 3 := by
  unfold sp_item
  repeat' split
  all_goals exact Nat.le_of_ble_eq_true rfl
theorem zk_cut (S : zS) (x1 x2 : Int32) : (sp_cut S x1 x2).1 ≤ 3 := by
  unfold sp_cut
  repeat' split
  all_goals exact Nat.le_of_ble_eq_true rfl
theorem zk_withdraw (S : zS) (x1 : Int32) : (sp_withdraw S x1).1 ≤ 3 := by
  unfold sp_withdraw
  repeat' split
  all_goals exact Nat.le_of_ble_eq_true rfl
theorem zk_songOut (S : zS) (x1 : Int32) : (sp_songOut S x1).1 ≤ 3 := by
  unfold sp_songOut
  repeat' split
  all_goals exact Nat.le_of_ble_eq_true rfl
theorem zk_pass (S : zS) (x1 : Int32) : (sp_pass S x1).1 ≤ 3 := by
  unfold sp_pass
  repeat' split
  all_goals exact Nat.le_of_ble_eq_true rfl
theorem zk_app (S : zS) (x1 : Int32) : (sp_app S x1).1 ≤ 3 := by
  unfold sp_app
  repeat' split
  all_goals exact Nat.le_of_ble_eq_true rfl
theorem zk_poll (S : zS) (x1 : Int32) : (sp_poll S x1).1 ≤ 3 := by
  unfold sp_poll
  repeat' split
  all_goals exact Nat.le_of_ble_eq_true rfl
theorem zk_campaign (S : zS) (x1 x2 x3 x4 x5 x6 x7 : Int32) : (sp_campaign S x1 x2 x3 x4 x5 x6 x7).1 ≤ 3 := by
  unfold sp_campaign
  repeat' split
  all_goals exact Nat.le_of_ble_eq_true rfl
theorem zk_ask (S : zS) (x1 x2 : Int32) : (sp_ask S x1 x2).1 ≤ 3 := by
  unfold sp_ask
  repeat' split
  all_goals exact Nat.le_of_ble_eq_true rfl
theorem zk_load (S : zS) (x1 x2 x3 : Int32) : (sp_load S x1 x2 x3).1 ≤ 3 := by
  unfold sp_load
  repeat' split
  all_goals exact Nat.le_of_ble_eq_true rfl
theorem zk_bot (S : zS) (x1 x2 : Int32) : (sp_bot S x1 x2).1 ≤ 3 := by
  unfold sp_bot
  repeat' split
  all_goals exact Nat.le_of_ble_eq_true rfl
theorem zk_tell (S : zS) (x1 x2 : Int32) : (sp_tell S x1 x2).1 ≤ 3 := by
  unfold sp_tell
  repeat' split
  all_goals exact Nat.le_of_ble_eq_true rfl
theorem zk_ofItem (S : zS) (x1 x2 : Int32) : (sp_ofItem S x1 x2).1 ≤ 3 := by
  unfold sp_ofItem
  repeat' split
  all_goals exact Nat.le_of_ble_eq_true rfl
theorem zk_ofPart (S : zS) (x1 x2 x3 : Int32) : (sp_ofPart S x1 x2 x3).1 ≤ 3 := by
  unfold sp_ofPart
  repeat' split
  all_goals exact Nat.le_of_ble_eq_true rfl
theorem zk_told (S : zS) (x1 x2 : Int32) : (sp_told S x1 x2).1 ≤ 3 := by
  unfold sp_told
  repeat' split
  all_goals exact Nat.le_of_ble_eq_true rfl
theorem zk_ofCampaign (S : zS) (x1 x2 : Int32) : (sp_ofCampaign S x1 x2).1 ≤ 3 := by
  unfold sp_ofCampaign
  repeat' split
  all_goals exact Nat.le_of_ble_eq_true rfl
theorem zk_ofDownload (S : zS) (x1 x2 : Int32) : (sp_ofDownload S x1 x2).1 ≤ 3 := by
  unfold sp_ofDownload
  repeat' split
  all_goals exact Nat.le_of_ble_eq_true rfl
theorem zk_ad (S : zS) (x1 x2 : Int32) : (sp_ad S x1 x2).1 ≤ 3 := by
  unfold sp_ad
  repeat' split
  all_goals exact Nat.le_of_ble_eq_true rfl
theorem zk_loadedAnew (S : zS) (x1 : Int32) : (sp_loadedAnew S x1).1 ≤ 3 := by
  unfold sp_loadedAnew
  repeat' split
  all_goals exact Nat.le_of_ble_eq_true rfl
theorem zk_counts (S : zS) (x1 x2 : Int32) : (sp_counts S x1 x2).1 ≤ 3 := by
  unfold sp_counts
  repeat' split
  all_goals exact Nat.le_of_ble_eq_true rfl
theorem zk_count (S : zS) (x1 x2 : Int32) : (sp_count S x1 x2).1 ≤ 3 := by
  unfold sp_count
  repeat' split
  all_goals exact Nat.le_of_ble_eq_true rfl
theorem zk_isOwed (S : zS) (x1 x2 : Int32) : (sp_isOwed S x1 x2).1 ≤ 3 := by
  unfold sp_isOwed
  repeat' split
  all_goals exact Nat.le_of_ble_eq_true rfl
end ZSU7
