/-! PRINTED BY wip/whole/gen/gen2.py: methods and links -/
theorem tm_1 {w : Jvm.Cond} (h : w ∈ tables_1_1) : w ∈ lw_tbl := List.mem_append_right _ (show w ∈ tables_1_1 ++ (tables_1_2 ++ (tables_1_3 ++ (tables_1_4 ++ (tables_1_5 ++ tables_1_6)))) from List.mem_append_left _ h)
theorem tm_2 {w : Jvm.Cond} (h : w ∈ tables_1_2) : w ∈ lw_tbl := List.mem_append_right _ (show w ∈ tables_1_1 ++ (tables_1_2 ++ (tables_1_3 ++ (tables_1_4 ++ (tables_1_5 ++ tables_1_6)))) from List.mem_append_right _ (List.mem_append_left _ h))
theorem tm_3 {w : Jvm.Cond} (h : w ∈ tables_1_3) : w ∈ lw_tbl := List.mem_append_right _ (show w ∈ tables_1_1 ++ (tables_1_2 ++ (tables_1_3 ++ (tables_1_4 ++ (tables_1_5 ++ tables_1_6)))) from List.mem_append_right _ (List.mem_append_right _ (List.mem_append_left _ h)))
theorem tm_4 {w : Jvm.Cond} (h : w ∈ tables_1_4) : w ∈ lw_tbl := List.mem_append_right _ (show w ∈ tables_1_1 ++ (tables_1_2 ++ (tables_1_3 ++ (tables_1_4 ++ (tables_1_5 ++ tables_1_6)))) from List.mem_append_right _ (List.mem_append_right _ (List.mem_append_right _ (List.mem_append_left _ h))))
theorem tm_5 {w : Jvm.Cond} (h : w ∈ tables_1_5) : w ∈ lw_tbl := List.mem_append_right _ (show w ∈ tables_1_1 ++ (tables_1_2 ++ (tables_1_3 ++ (tables_1_4 ++ (tables_1_5 ++ tables_1_6)))) from List.mem_append_right _ (List.mem_append_right _ (List.mem_append_right _ (List.mem_append_right _ (List.mem_append_left _ h)))))
theorem tm_6 {w : Jvm.Cond} (h : w ∈ tables_1_6) : w ∈ lw_tbl := List.mem_append_right _ (show w ∈ tables_1_1 ++ (tables_1_2 ++ (tables_1_3 ++ (tables_1_4 ++ (tables_1_5 ++ tables_1_6)))) from List.mem_append_right _ (List.mem_append_right _ (List.mem_append_right _ (List.mem_append_right _ (List.mem_append_right _ (h))))))
def za_lu {α : Type} : List (Nat × α) → Nat → Option α
  | [], _ => none
  | e :: t, i => if e.1 = i then some e.2 else za_lu t i
theorem za_lu_ok {α : Type} {l : List (Nat × α)} {Q : Nat → α → Prop} (h : ∀ e ∈ l, Q e.1 e.2) : ∀ i q, za_lu l i = some q → Q i q := by
  intro i q hq
  induction l with
  | nil => cases hq
  | cons e t ih =>
    unfold za_lu at hq
    split at hq
    · rename_i he
      cases hq
      rw [← he]
      exact h e List.mem_cons_self
    · exact ih (fun x hx => h x (List.mem_cons_of_mem _ hx)) hq
theorem za_nil {α : Type} {Q : α → Prop} : ∀ e ∈ ([] : List α), Q e := fun _ h => by cases h
theorem za_cons {α : Type} {Q : α → Prop} {a : α} {l : List α} (h : Q a) (t : ∀ e ∈ l, Q e) : ∀ e ∈ a :: l, Q e := List.forall_mem_cons.mpr ⟨h, t⟩
theorem uwJx4a65c : ∀ w ∈ u_ws RJx4a65c TJx4a65c 3, w ∈ lw_tbl := by decide +kernel
theorem uwX0 : ∀ w ∈ u_ws RX0 TX0 3, w ∈ lw_tbl := by decide +kernel
theorem uwX1 : ∀ w ∈ u_ws RX1 TX1 9, w ∈ lw_tbl := by decide +kernel
theorem uwX2 : ∀ w ∈ u_ws RX2 TX2 10, w ∈ lw_tbl := by decide +kernel
theorem uwX3 : ∀ w ∈ u_ws RX3 TX3 5, w ∈ lw_tbl := by decide +kernel
theorem uwX4 : ∀ w ∈ u_ws RX4 TX4 5, w ∈ lw_tbl := by decide +kernel
theorem uwX5 : ∀ w ∈ u_ws RX5 TX5 5, w ∈ lw_tbl := by decide +kernel
theorem uwX6 : ∀ w ∈ u_ws RX6 TX6 2, w ∈ lw_tbl := by decide +kernel
theorem uwX7 : ∀ w ∈ u_ws RX7 TX7 10, w ∈ lw_tbl := by decide +kernel
theorem uwX8 : ∀ w ∈ u_ws RX8 TX8 50, w ∈ lw_tbl := by decide +kernel
abbrev mX7_init : za_M := (yX7_init, cX7_init, 1, none, [], 4)
theorem mkX7_init : za_mk mX7_init 0 := ⟨(tm_1 (List.mem_of_getElem? (i := 29) (by decide +kernel))), (tm_1 (List.mem_of_getElem? (i := 1) (by decide +kernel))), ⟨by decide +kernel, by decide +kernel⟩, by decide +kernel, by decide⟩
abbrev mX7_talk : za_M := (yX7_talk, cX7_talk, 2, (some .int), [], 8)
theorem mkX7_talk : za_mk mX7_talk 1 := ⟨(tm_1 (List.mem_of_getElem? (i := 102) (by decide +kernel))), (tm_1 (List.mem_of_getElem? (i := 1) (by decide +kernel))), ⟨by decide +kernel, by decide +kernel⟩, by decide +kernel, by decide⟩
abbrev mX7_music : za_M := (yX7_music, cX7_music, 3, (some .int), [], 8)
theorem mkX7_music : za_mk mX7_music 2 := ⟨(tm_2 (List.mem_of_getElem? (i := 57) (by decide +kernel))), (tm_1 (List.mem_of_getElem? (i := 1) (by decide +kernel))), ⟨by decide +kernel, by decide +kernel⟩, by decide +kernel, by decide⟩
abbrev mX7_slot : za_M := (yX7_slot, cX7_slot, 2, (some .int), [], 8)
theorem mkX7_slot : za_mk mX7_slot 1 := ⟨(tm_2 (List.mem_of_getElem? (i := 87) (by decide +kernel))), (tm_1 (List.mem_of_getElem? (i := 1) (by decide +kernel))), ⟨by decide +kernel, by decide +kernel⟩, by decide +kernel, by decide⟩
abbrev mX7_item : za_M := (yX7_item, cX7_item, 4, (some .int), [], 8)
theorem mkX7_item : za_mk mX7_item 2 := ⟨(tm_2 (List.mem_of_getElem? (i := 95) (by decide +kernel))), (tm_1 (List.mem_of_getElem? (i := 1) (by decide +kernel))), ⟨by decide +kernel, by decide +kernel⟩, by decide +kernel, by decide⟩
abbrev mX7_cut : za_M := (yX7_cut, cX7_cut, 6, (some .int), [], 8)
theorem mkX7_cut : za_mk mX7_cut 2 := ⟨(tm_2 (List.mem_of_getElem? (i := 176) (by decide +kernel))), (tm_1 (List.mem_of_getElem? (i := 1) (by decide +kernel))), ⟨by decide +kernel, by decide +kernel⟩, by decide +kernel, by decide⟩
abbrev mX7_withdraw : za_M := (yX7_withdraw, cX7_withdraw, 3, none, [], 8)
theorem mkX7_withdraw : za_mk mX7_withdraw 1 := ⟨(tm_2 (List.mem_of_getElem? (i := 196) (by decide +kernel))), (tm_1 (List.mem_of_getElem? (i := 1) (by decide +kernel))), ⟨by decide +kernel, by decide +kernel⟩, by decide +kernel, by decide⟩
abbrev mX7_songOut : za_M := (yX7_songOut, cX7_songOut, 6, (some .int), [], 8)
theorem mkX7_songOut : za_mk mX7_songOut 1 := ⟨(tm_2 (List.mem_of_getElem? (i := 204) (by decide +kernel))), (tm_1 (List.mem_of_getElem? (i := 1) (by decide +kernel))), ⟨by decide +kernel, by decide +kernel⟩, by decide +kernel, by decide⟩
abbrev mX7_pass : za_M := (yX7_pass, cX7_pass, 3, (some .int), [], 8)
theorem mkX7_pass : za_mk mX7_pass 1 := ⟨(tm_2 (List.mem_of_getElem? (i := 214) (by decide +kernel))), (tm_1 (List.mem_of_getElem? (i := 1) (by decide +kernel))), ⟨by decide +kernel, by decide +kernel⟩, by decide +kernel, by decide⟩
abbrev mX7_app : za_M := (yX7_app, cX7_app, 2, (some .int), [], 7)
theorem mkX7_app : za_mk mX7_app 1 := ⟨(tm_2 (List.mem_of_getElem? (i := 227) (by decide +kernel))), (tm_1 (List.mem_of_getElem? (i := 1) (by decide +kernel))), ⟨by decide +kernel, by decide +kernel⟩, by decide +kernel, by decide⟩
abbrev mX7_poll : za_M := (yX7_poll, cX7_poll, 6, (some .int), [], 7)
theorem mkX7_poll : za_mk mX7_poll 1 := ⟨(tm_3 (List.mem_of_getElem? (i := 16) (by decide +kernel))), (tm_1 (List.mem_of_getElem? (i := 1) (by decide +kernel))), ⟨by decide +kernel, by decide +kernel⟩, by decide +kernel, by decide⟩
abbrev mX7_campaign : za_M := (yX7_campaign, cX7_campaign, 9, (some .int), [], 7)
theorem mkX7_campaign : za_mk mX7_campaign 7 := ⟨(tm_3 (List.mem_of_getElem? (i := 33) (by decide +kernel))), (tm_1 (List.mem_of_getElem? (i := 1) (by decide +kernel))), ⟨by decide +kernel, by decide +kernel⟩, by decide +kernel, by decide⟩
abbrev mX7_ask : za_M := (yX7_ask, cX7_ask, 7, (some .int), [], 9)
theorem mkX7_ask : za_mk mX7_ask 2 := ⟨(tm_3 (List.mem_of_getElem? (i := 84) (by decide +kernel))), (tm_1 (List.mem_of_getElem? (i := 1) (by decide +kernel))), ⟨by decide +kernel, by decide +kernel⟩, by decide +kernel, by decide⟩
abbrev mX7_load : za_M := (yX7_load, cX7_load, 5, (some .int), [], 8)
theorem mkX7_load : za_mk mX7_load 3 := ⟨(tm_3 (List.mem_of_getElem? (i := 197) (by decide +kernel))), (tm_1 (List.mem_of_getElem? (i := 1) (by decide +kernel))), ⟨by decide +kernel, by decide +kernel⟩, by decide +kernel, by decide⟩
abbrev mX7_bot : za_M := (yX7_bot, cX7_bot, 4, (some .boolean), [], 7)
theorem mkX7_bot : za_mk mX7_bot 2 := ⟨(tm_4 (List.mem_of_getElem? (i := 5) (by decide +kernel))), (tm_1 (List.mem_of_getElem? (i := 1) (by decide +kernel))), ⟨by decide +kernel, by decide +kernel⟩, by decide +kernel, by decide⟩
abbrev mX7_tell : za_M := (yX7_tell, cX7_tell, 7, (some .boolean), [], 7)
theorem mkX7_tell : za_mk mX7_tell 2 := ⟨(tm_4 (List.mem_of_getElem? (i := 12) (by decide +kernel))), (tm_1 (List.mem_of_getElem? (i := 1) (by decide +kernel))), ⟨by decide +kernel, by decide +kernel⟩, by decide +kernel, by decide⟩
abbrev mX7_hour : za_M := (yX7_hour, cX7_hour, 1, (some .int), [], 0)
theorem mkX7_hour : za_mk mX7_hour 0 := ⟨(tm_1 (List.mem_of_getElem? (i := 93) (by decide +kernel))), (tm_1 (List.mem_of_getElem? (i := 1) (by decide +kernel))), ⟨by decide +kernel, by decide +kernel⟩, by decide +kernel, by decide⟩
abbrev mX7_ofItem : za_M := (yX7_ofItem, cX7_ofItem, 4, (some .int), [], 7)
theorem mkX7_ofItem : za_mk mX7_ofItem 2 := ⟨(tm_4 (List.mem_of_getElem? (i := 36) (by decide +kernel))), (tm_1 (List.mem_of_getElem? (i := 1) (by decide +kernel))), ⟨by decide +kernel, by decide +kernel⟩, by decide +kernel, by decide⟩
abbrev mX7_ofPart : za_M := (yX7_ofPart, cX7_ofPart, 5, (some .int), [], 7)
theorem mkX7_ofPart : za_mk mX7_ofPart 3 := ⟨(tm_4 (List.mem_of_getElem? (i := 52) (by decide +kernel))), (tm_1 (List.mem_of_getElem? (i := 1) (by decide +kernel))), ⟨by decide +kernel, by decide +kernel⟩, by decide +kernel, by decide⟩
abbrev mX7_told : za_M := (yX7_told, cX7_told, 4, (some .int), [], 7)
theorem mkX7_told : za_mk mX7_told 2 := ⟨(tm_4 (List.mem_of_getElem? (i := 59) (by decide +kernel))), (tm_1 (List.mem_of_getElem? (i := 1) (by decide +kernel))), ⟨by decide +kernel, by decide +kernel⟩, by decide +kernel, by decide⟩
abbrev mX7_ofCampaign : za_M := (yX7_ofCampaign, cX7_ofCampaign, 4, (some .int), [], 7)
theorem mkX7_ofCampaign : za_mk mX7_ofCampaign 2 := ⟨(tm_4 (List.mem_of_getElem? (i := 67) (by decide +kernel))), (tm_1 (List.mem_of_getElem? (i := 1) (by decide +kernel))), ⟨by decide +kernel, by decide +kernel⟩, by decide +kernel, by decide⟩
abbrev mX7_ofDownload : za_M := (yX7_ofDownload, cX7_ofDownload, 4, (some .int), [], 7)
theorem mkX7_ofDownload : za_mk mX7_ofDownload 2 := ⟨(tm_4 (List.mem_of_getElem? (i := 87) (by decide +kernel))), (tm_1 (List.mem_of_getElem? (i := 1) (by decide +kernel))), ⟨by decide +kernel, by decide +kernel⟩, by decide +kernel, by decide⟩
abbrev mX7_ad : za_M := (yX7_ad, cX7_ad, 4, (some .int), [], 7)
theorem mkX7_ad : za_mk mX7_ad 2 := ⟨(tm_4 (List.mem_of_getElem? (i := 106) (by decide +kernel))), (tm_1 (List.mem_of_getElem? (i := 1) (by decide +kernel))), ⟨by decide +kernel, by decide +kernel⟩, by decide +kernel, by decide⟩
abbrev mX7_loadedAnew : za_M := (yX7_loadedAnew, cX7_loadedAnew, 3, (some .int), [], 7)
theorem mkX7_loadedAnew : za_mk mX7_loadedAnew 1 := ⟨(tm_4 (List.mem_of_getElem? (i := 115) (by decide +kernel))), (tm_1 (List.mem_of_getElem? (i := 1) (by decide +kernel))), ⟨by decide +kernel, by decide +kernel⟩, by decide +kernel, by decide⟩
abbrev mX7_counts : za_M := (yX7_counts, cX7_counts, 4, (some .boolean), [], 7)
theorem mkX7_counts : za_mk mX7_counts 2 := ⟨(tm_4 (List.mem_of_getElem? (i := 123) (by decide +kernel))), (tm_1 (List.mem_of_getElem? (i := 1) (by decide +kernel))), ⟨by decide +kernel, by decide +kernel⟩, by decide +kernel, by decide⟩
abbrev mX7_count : za_M := (yX7_count, cX7_count, 6, (some .int), [], 7)
theorem mkX7_count : za_mk mX7_count 2 := ⟨(tm_4 (List.mem_of_getElem? (i := 146) (by decide +kernel))), (tm_1 (List.mem_of_getElem? (i := 1) (by decide +kernel))), ⟨by decide +kernel, by decide +kernel⟩, by decide +kernel, by decide⟩
abbrev mX7_isOwed : za_M := (yX7_isOwed, cX7_isOwed, 3, (some .boolean), [], 7)
theorem mkX7_isOwed : za_mk mX7_isOwed 2 := ⟨(tm_4 (List.mem_of_getElem? (i := 153) (by decide +kernel))), (tm_1 (List.mem_of_getElem? (i := 1) (by decide +kernel))), ⟨by decide +kernel, by decide +kernel⟩, by decide +kernel, by decide⟩
abbrev mX7_isIn : za_M := (yX7_isIn, cX7_isIn, 3, (some .boolean), [], 0)
theorem mkX7_isIn : za_mk mX7_isIn 3 := ⟨(tm_1 (List.mem_of_getElem? (i := 105) (by decide +kernel))), (tm_1 (List.mem_of_getElem? (i := 1) (by decide +kernel))), ⟨by decide +kernel, by decide +kernel⟩, by decide +kernel, by decide⟩
abbrev mX7_hasBit : za_M := (yX7_hasBit, cX7_hasBit, 2, (some .boolean), [], 0)
theorem mkX7_hasBit : za_mk mX7_hasBit 2 := ⟨(tm_2 (List.mem_of_getElem? (i := 79) (by decide +kernel))), (tm_1 (List.mem_of_getElem? (i := 1) (by decide +kernel))), ⟨by decide +kernel, by decide +kernel⟩, by decide +kernel, by decide⟩
abbrev mX7_withBit : za_M := (yX7_withBit, cX7_withBit, 2, (some .int), [], 0)
theorem mkX7_withBit : za_mk mX7_withBit 2 := ⟨(tm_2 (List.mem_of_getElem? (i := 207) (by decide +kernel))), (tm_1 (List.mem_of_getElem? (i := 1) (by decide +kernel))), ⟨by decide +kernel, by decide +kernel⟩, by decide +kernel, by decide⟩
abbrev mX7_needShow : za_M := (yX7_needShow, cX7_needShow, 1, none, [], 6)
theorem mkX7_needShow : za_mk mX7_needShow 1 := ⟨(tm_2 (List.mem_of_getElem? (i := 98) (by decide +kernel))), (tm_1 (List.mem_of_getElem? (i := 1) (by decide +kernel))), ⟨by decide +kernel, by decide +kernel⟩, by decide +kernel, by decide⟩
abbrev mX7_needSong : za_M := (yX7_needSong, cX7_needSong, 1, none, [], 6)
theorem mkX7_needSong : za_mk mX7_needSong 1 := ⟨(tm_2 (List.mem_of_getElem? (i := 60) (by decide +kernel))), (tm_1 (List.mem_of_getElem? (i := 1) (by decide +kernel))), ⟨by decide +kernel, by decide +kernel⟩, by decide +kernel, by decide⟩
abbrev mX7_needListener : za_M := (yX7_needListener, cX7_needListener, 1, none, [], 6)
theorem mkX7_needListener : za_mk mX7_needListener 1 := ⟨(tm_3 (List.mem_of_getElem? (i := 87) (by decide +kernel))), (tm_1 (List.mem_of_getElem? (i := 1) (by decide +kernel))), ⟨by decide +kernel, by decide +kernel⟩, by decide +kernel, by decide⟩
abbrev mX7_needRule : za_M := (yX7_needRule, cX7_needRule, 1, none, [], 6)
theorem mkX7_needRule : za_mk mX7_needRule 1 := ⟨(tm_4 (List.mem_of_getElem? (i := 126) (by decide +kernel))), (tm_1 (List.mem_of_getElem? (i := 1) (by decide +kernel))), ⟨by decide +kernel, by decide +kernel⟩, by decide +kernel, by decide⟩
abbrev mX7_itemAt : za_M := (yX7_itemAt, cX7_itemAt, 2, (some (.object "FeedTower$Item")), [], 6)
theorem mkX7_itemAt : za_mk mX7_itemAt 1 := ⟨(tm_2 (List.mem_of_getElem? (i := 180) (by decide +kernel))), (tm_1 (List.mem_of_getElem? (i := 1) (by decide +kernel))), ⟨by decide +kernel, by decide +kernel⟩, by decide +kernel, by decide⟩
abbrev mX7_appAt : za_M := (yX7_appAt, cX7_appAt, 2, (some (.object "FeedTower$App")), [], 6)
theorem mkX7_appAt : za_mk mX7_appAt 1 := ⟨(tm_3 (List.mem_of_getElem? (i := 20) (by decide +kernel))), (tm_1 (List.mem_of_getElem? (i := 1) (by decide +kernel))), ⟨by decide +kernel, by decide +kernel⟩, by decide +kernel, by decide⟩
abbrev mX7_campaignAt : za_M := (yX7_campaignAt, cX7_campaignAt, 2, (some (.object "FeedTower$Campaign")), [], 6)
theorem mkX7_campaignAt : za_mk mX7_campaignAt 1 := ⟨(tm_4 (List.mem_of_getElem? (i := 71) (by decide +kernel))), (tm_1 (List.mem_of_getElem? (i := 1) (by decide +kernel))), ⟨by decide +kernel, by decide +kernel⟩, by decide +kernel, by decide⟩
abbrev mX7_downloadAt : za_M := (yX7_downloadAt, cX7_downloadAt, 2, (some (.object "FeedTower$Download")), [], 6)
theorem mkX7_downloadAt : za_mk mX7_downloadAt 1 := ⟨(tm_3 (List.mem_of_getElem? (i := 201) (by decide +kernel))), (tm_1 (List.mem_of_getElem? (i := 1) (by decide +kernel))), ⟨by decide +kernel, by decide +kernel⟩, by decide +kernel, by decide⟩
abbrev mX7_addToDraft : za_M := (yX7_addToDraft, cX7_addToDraft, 2, (some .int), [], 7)
theorem mkX7_addToDraft : za_mk mX7_addToDraft 1 := ⟨(tm_1 (List.mem_of_getElem? (i := 209) (by decide +kernel))), (tm_1 (List.mem_of_getElem? (i := 1) (by decide +kernel))), ⟨by decide +kernel, by decide +kernel⟩, by decide +kernel, by decide⟩
abbrev mX7_isOut : za_M := (yX7_isOut, cX7_isOut, 2, (some .boolean), [], 1)
theorem mkX7_isOut : za_mk mX7_isOut 1 := ⟨(tm_2 (List.mem_of_getElem? (i := 122) (by decide +kernel))), (tm_1 (List.mem_of_getElem? (i := 1) (by decide +kernel))), ⟨by decide +kernel, by decide +kernel⟩, by decide +kernel, by decide⟩
abbrev mX7_isDraftOfUse : za_M := (yX7_isDraftOfUse, cX7_isDraftOfUse, 2, (some .boolean), [], 3)
theorem mkX7_isDraftOfUse : za_mk mX7_isDraftOfUse 0 := ⟨(tm_2 (List.mem_of_getElem? (i := 104) (by decide +kernel))), (tm_1 (List.mem_of_getElem? (i := 1) (by decide +kernel))), ⟨by decide +kernel, by decide +kernel⟩, by decide +kernel, by decide⟩
abbrev mX7_cutWhatIsOut : za_M := (yX7_cutWhatIsOut, cX7_cutWhatIsOut, 5, (some .int), [], 4)
theorem mkX7_cutWhatIsOut : za_mk mX7_cutWhatIsOut 1 := ⟨(tm_2 (List.mem_of_getElem? (i := 154) (by decide +kernel))), (tm_1 (List.mem_of_getElem? (i := 1) (by decide +kernel))), ⟨by decide +kernel, by decide +kernel⟩, by decide +kernel, by decide⟩
abbrev mX7_isReleased : za_M := (yX7_isReleased, cX7_isReleased, 2, (some .boolean), [], 0)
theorem mkX7_isReleased : za_mk mX7_isReleased 1 := ⟨(tm_2 (List.mem_of_getElem? (i := 169) (by decide +kernel))), (tm_1 (List.mem_of_getElem? (i := 1) (by decide +kernel))), ⟨by decide +kernel, by decide +kernel⟩, by decide +kernel, by decide⟩
abbrev mX7_noteChange : za_M := (yX7_noteChange, cX7_noteChange, 2, none, [], 7)
theorem mkX7_noteChange : za_mk mX7_noteChange 1 := ⟨(tm_2 (List.mem_of_getElem? (i := 165) (by decide +kernel))), (tm_1 (List.mem_of_getElem? (i := 1) (by decide +kernel))), ⟨by decide +kernel, by decide +kernel⟩, by decide +kernel, by decide⟩
abbrev mX7_releaseItemsOfThisHour : za_M := (yX7_releaseItemsOfThisHour, cX7_releaseItemsOfThisHour, 3, none, [], 7)
theorem mkX7_releaseItemsOfThisHour : za_mk mX7_releaseItemsOfThisHour 0 := ⟨(tm_2 (List.mem_of_getElem? (i := 220) (by decide +kernel))), (tm_1 (List.mem_of_getElem? (i := 1) (by decide +kernel))), ⟨by decide +kernel, by decide +kernel⟩, by decide +kernel, by decide⟩
abbrev mX7_addToDownload : za_M := (yX7_addToDownload, cX7_addToDownload, 5, none, [], 8)
theorem mkX7_addToDownload : za_mk mX7_addToDownload 3 := ⟨(tm_3 (List.mem_of_getElem? (i := 141) (by decide +kernel))), (tm_1 (List.mem_of_getElem? (i := 1) (by decide +kernel))), ⟨by decide +kernel, by decide +kernel⟩, by decide +kernel, by decide⟩
abbrev mX7_adFor : za_M := (yX7_adFor, cX7_adFor, 8, (some (.object "FeedTower$Campaign")), [], 5)
theorem mkX7_adFor : za_mk mX7_adFor 2 := ⟨(tm_3 (List.mem_of_getElem? (i := 145) (by decide +kernel))), (tm_1 (List.mem_of_getElem? (i := 1) (by decide +kernel))), ⟨by decide +kernel, by decide +kernel⟩, by decide +kernel, by decide⟩
abbrev mX7_isAllowed : za_M := (yX7_isAllowed, cX7_isAllowed, 3, (some .boolean), [], 4)
theorem mkX7_isAllowed : za_mk mX7_isAllowed 2 := ⟨(tm_3 (List.mem_of_getElem? (i := 153) (by decide +kernel))), (tm_1 (List.mem_of_getElem? (i := 1) (by decide +kernel))), ⟨by decide +kernel, by decide +kernel⟩, by decide +kernel, by decide⟩
abbrev mX7_adsToday : za_M := (yX7_adsToday, cX7_adsToday, 7, (some .int), [], 3)
theorem mkX7_adsToday : za_mk mX7_adsToday 2 := ⟨(tm_3 (List.mem_of_getElem? (i := 157) (by decide +kernel))), (tm_1 (List.mem_of_getElem? (i := 1) (by decide +kernel))), ⟨by decide +kernel, by decide +kernel⟩, by decide +kernel, by decide⟩
abbrev mX7_adsHeard : za_M := (yX7_adsHeard, cX7_adsHeard, 5, (some .int), [], 6)
theorem mkX7_adsHeard : za_mk mX7_adsHeard 1 := ⟨(tm_4 (List.mem_of_getElem? (i := 76) (by decide +kernel))), (tm_1 (List.mem_of_getElem? (i := 1) (by decide +kernel))), ⟨by decide +kernel, by decide +kernel⟩, by decide +kernel, by decide⟩
abbrev mX7_downloadsOf : za_M := (yX7_downloadsOf, cX7_downloadsOf, 4, (some .int), [], 3)
theorem mkX7_downloadsOf : za_mk mX7_downloadsOf 1 := ⟨(tm_4 (List.mem_of_getElem? (i := 44) (by decide +kernel))), (tm_1 (List.mem_of_getElem? (i := 1) (by decide +kernel))), ⟨by decide +kernel, by decide +kernel⟩, by decide +kernel, by decide⟩
abbrev mX7_isCounted : za_M := (yX7_isCounted, cX7_isCounted, 3, (some .boolean), [], 4)
theorem mkX7_isCounted : za_mk mX7_isCounted 2 := ⟨(tm_4 (List.mem_of_getElem? (i := 131) (by decide +kernel))), (tm_1 (List.mem_of_getElem? (i := 1) (by decide +kernel))), ⟨by decide +kernel, by decide +kernel⟩, by decide +kernel, by decide⟩
abbrev mX7_isCountedStrictly : za_M := (yX7_isCountedStrictly, cX7_isCountedStrictly, 5, (some .boolean), [], 3)
theorem mkX7_isCountedStrictly : za_mk mX7_isCountedStrictly 1 := ⟨(tm_4 (List.mem_of_getElem? (i := 135) (by decide +kernel))), (tm_1 (List.mem_of_getElem? (i := 1) (by decide +kernel))), ⟨by decide +kernel, by decide +kernel⟩, by decide +kernel, by decide⟩
abbrev mX7_reach : za_M := (yX7_reach, cX7_reach, 6, (some .int), [], 5)
theorem mkX7_reach : za_mk mX7_reach 2 := ⟨(tm_4 (List.mem_of_getElem? (i := 91) (by decide +kernel))), (tm_1 (List.mem_of_getElem? (i := 1) (by decide +kernel))), ⟨by decide +kernel, by decide +kernel⟩, by decide +kernel, by decide⟩
abbrev mX7_wantsCorrection : za_M := (yX7_wantsCorrection, cX7_wantsCorrection, 5, (some .boolean), [], 5)
theorem mkX7_wantsCorrection : za_mk mX7_wantsCorrection 2 := ⟨(tm_4 (List.mem_of_getElem? (i := 16) (by decide +kernel))), (tm_1 (List.mem_of_getElem? (i := 1) (by decide +kernel))), ⟨by decide +kernel, by decide +kernel⟩, by decide +kernel, by decide⟩
abbrev mX0_init : za_M := (yX0_init, cX0_init, 2, none, [], 4)
theorem mkX0_init : za_mk mX0_init 1 := ⟨(tm_2 (List.mem_of_getElem? (i := 233) (by decide +kernel))), (tm_1 (List.mem_of_getElem? (i := 20) (by decide +kernel))), ⟨by decide +kernel, by decide +kernel⟩, by decide +kernel, by decide⟩
abbrev mX1_init : za_M := (yX1_init, cX1_init, 8, none, [], 1)
theorem mkX1_init : za_mk mX1_init 7 := ⟨(tm_3 (List.mem_of_getElem? (i := 42) (by decide +kernel))), (tm_1 (List.mem_of_getElem? (i := 21) (by decide +kernel))), ⟨by decide +kernel, by decide +kernel⟩, by decide +kernel, by decide⟩
abbrev mX1_dueIn : za_M := (yX1_dueIn, cX1_dueIn, 3, (some .int), [], 0)
theorem mkX1_dueIn : za_mk mX1_dueIn 1 := ⟨(tm_3 (List.mem_of_getElem? (i := 149) (by decide +kernel))), (tm_1 (List.mem_of_getElem? (i := 21) (by decide +kernel))), ⟨by decide +kernel, by decide +kernel⟩, by decide +kernel, by decide⟩
abbrev mX2_init : za_M := (yX2_init, cX2_init, 5, none, [], 4)
theorem mkX2_init : za_mk mX2_init 4 := ⟨(tm_3 (List.mem_of_getElem? (i := 94) (by decide +kernel))), (tm_1 (List.mem_of_getElem? (i := 22) (by decide +kernel))), ⟨by decide +kernel, by decide +kernel⟩, by decide +kernel, by decide⟩
abbrev mX2_isOf : za_M := (yX2_isOf, cX2_isOf, 3, (some .boolean), [], 0)
theorem mkX2_isOf : za_mk mX2_isOf 2 := ⟨(tm_4 (List.mem_of_getElem? (i := 20) (by decide +kernel))), (tm_1 (List.mem_of_getElem? (i := 22) (by decide +kernel))), ⟨by decide +kernel, by decide +kernel⟩, by decide +kernel, by decide⟩
abbrev mX2_addPiece : za_M := (yX2_addPiece, cX2_addPiece, 5, none, [], 7)
theorem mkX2_addPiece : za_mk mX2_addPiece 4 := ⟨(tm_3 (List.mem_of_getElem? (i := 161) (by decide +kernel))), (tm_1 (List.mem_of_getElem? (i := 22) (by decide +kernel))), ⟨by decide +kernel, by decide +kernel⟩, by decide +kernel, by decide⟩
abbrev mX2_addRange : za_M := (yX2_addRange, cX2_addRange, 3, none, [], 7)
theorem mkX2_addRange : za_mk mX2_addRange 2 := ⟨(tm_3 (List.mem_of_getElem? (i := 207) (by decide +kernel))), (tm_1 (List.mem_of_getElem? (i := 22) (by decide +kernel))), ⟨by decide +kernel, by decide +kernel⟩, by decide +kernel, by decide⟩
abbrev mX2_loadedIn : za_M := (yX2_loadedIn, cX2_loadedIn, 7, (some .int), [], 4)
theorem mkX2_loadedIn : za_mk mX2_loadedIn 2 := ⟨(tm_3 (List.mem_of_getElem? (i := 211) (by decide +kernel))), (tm_1 (List.mem_of_getElem? (i := 22) (by decide +kernel))), ⟨by decide +kernel, by decide +kernel⟩, by decide +kernel, by decide⟩
abbrev mX2_loadedUntil : za_M := (yX2_loadedUntil, cX2_loadedUntil, 5, (some .int), [], 3)
theorem mkX2_loadedUntil : za_mk mX2_loadedUntil 1 := ⟨(tm_3 (List.mem_of_getElem? (i := 215) (by decide +kernel))), (tm_1 (List.mem_of_getElem? (i := 22) (by decide +kernel))), ⟨by decide +kernel, by decide +kernel⟩, by decide +kernel, by decide⟩
abbrev mX2_nextRangeBehind : za_M := (yX2_nextRangeBehind, cX2_nextRangeBehind, 6, (some .int), [], 3)
theorem mkX2_nextRangeBehind : za_mk mX2_nextRangeBehind 2 := ⟨(tm_3 (List.mem_of_getElem? (i := 223) (by decide +kernel))), (tm_1 (List.mem_of_getElem? (i := 22) (by decide +kernel))), ⟨by decide +kernel, by decide +kernel⟩, by decide +kernel, by decide⟩
abbrev mX2_lastLoadedIn : za_M := (yX2_lastLoadedIn, cX2_lastLoadedIn, 7, (some .int), [], 3)
theorem mkX2_lastLoadedIn : za_mk mX2_lastLoadedIn 2 := ⟨(tm_4 (List.mem_of_getElem? (i := 29) (by decide +kernel))), (tm_1 (List.mem_of_getElem? (i := 22) (by decide +kernel))), ⟨by decide +kernel, by decide +kernel⟩, by decide +kernel, by decide⟩
abbrev mX2_isLoadedEnough : za_M := (yX2_isLoadedEnough, cX2_isLoadedEnough, 1, (some .boolean), [], 1)
theorem mkX2_isLoadedEnough : za_mk mX2_isLoadedEnough 0 := ⟨(tm_4 (List.mem_of_getElem? (i := 139) (by decide +kernel))), (tm_1 (List.mem_of_getElem? (i := 22) (by decide +kernel))), ⟨by decide +kernel, by decide +kernel⟩, by decide +kernel, by decide⟩
abbrev mX2_hasWholeAd : za_M := (yX2_hasWholeAd, cX2_hasWholeAd, 4, (some .boolean), [], 5)
theorem mkX2_hasWholeAd : za_mk mX2_hasWholeAd 1 := ⟨(tm_4 (List.mem_of_getElem? (i := 80) (by decide +kernel))), (tm_1 (List.mem_of_getElem? (i := 22) (by decide +kernel))), ⟨by decide +kernel, by decide +kernel⟩, by decide +kernel, by decide⟩
abbrev mX2_hasLoadedUntoldCut : za_M := (yX2_hasLoadedUntoldCut, cX2_hasLoadedUntoldCut, 4, (some .boolean), [], 4)
theorem mkX2_hasLoadedUntoldCut : za_mk mX2_hasLoadedUntoldCut 0 := ⟨(tm_4 (List.mem_of_getElem? (i := 24) (by decide +kernel))), (tm_1 (List.mem_of_getElem? (i := 22) (by decide +kernel))), ⟨by decide +kernel, by decide +kernel⟩, by decide +kernel, by decide⟩
abbrev mX2_reach : za_M := (yX2_reach, cX2_reach, 5, (some .int), [], 4)
theorem mkX2_reach : za_mk mX2_reach 0 := ⟨(tm_4 (List.mem_of_getElem? (i := 95) (by decide +kernel))), (tm_1 (List.mem_of_getElem? (i := 22) (by decide +kernel))), ⟨by decide +kernel, by decide +kernel⟩, by decide +kernel, by decide⟩
abbrev mX2_secondBehind : za_M := (yX2_secondBehind, cX2_secondBehind, 6, (some .int), [], 3)
theorem mkX2_secondBehind : za_mk mX2_secondBehind 1 := ⟨(tm_4 (List.mem_of_getElem? (i := 99) (by decide +kernel))), (tm_1 (List.mem_of_getElem? (i := 22) (by decide +kernel))), ⟨by decide +kernel, by decide +kernel⟩, by decide +kernel, by decide⟩
abbrev mX3_init : za_M := (yX3_init, cX3_init, 5, none, [], 1)
theorem mkX3_init : za_mk mX3_init 4 := ⟨(tm_2 (List.mem_of_getElem? (i := 128) (by decide +kernel))), (tm_1 (List.mem_of_getElem? (i := 19) (by decide +kernel))), ⟨by decide +kernel, by decide +kernel⟩, by decide +kernel, by decide⟩
abbrev mX3_partAt : za_M := (yX3_partAt, cX3_partAt, 2, (some (.object "FeedTower$Part")), [], 6)
theorem mkX3_partAt : za_mk mX3_partAt 1 := ⟨(tm_2 (List.mem_of_getElem? (i := 185) (by decide +kernel))), (tm_1 (List.mem_of_getElem? (i := 19) (by decide +kernel))), ⟨by decide +kernel, by decide +kernel⟩, by decide +kernel, by decide⟩
abbrev mX3_uncutParts : za_M := (yX3_uncutParts, cX3_uncutParts, 3, (some .int), [], 3)
theorem mkX3_uncutParts : za_mk mX3_uncutParts 0 := ⟨(tm_2 (List.mem_of_getElem? (i := 158) (by decide +kernel))), (tm_1 (List.mem_of_getElem? (i := 19) (by decide +kernel))), ⟨by decide +kernel, by decide +kernel⟩, by decide +kernel, by decide⟩
abbrev mX3_uncutSeconds : za_M := (yX3_uncutSeconds, cX3_uncutSeconds, 4, (some .int), [], 3)
theorem mkX3_uncutSeconds : za_mk mX3_uncutSeconds 0 := ⟨(tm_4 (List.mem_of_getElem? (i := 40) (by decide +kernel))), (tm_1 (List.mem_of_getElem? (i := 19) (by decide +kernel))), ⟨by decide +kernel, by decide +kernel⟩, by decide +kernel, by decide⟩
abbrev mX4_init : za_M := (yX4_init, cX4_init, 4, none, [], 1)
theorem mkX4_init : za_mk mX4_init 3 := ⟨(tm_1 (List.mem_of_getElem? (i := 178) (by decide +kernel))), (tm_1 (List.mem_of_getElem? (i := 10) (by decide +kernel))), ⟨by decide +kernel, by decide +kernel⟩, by decide +kernel, by decide⟩
abbrev mX5_init : za_M := (yX5_init, cX5_init, 6, none, [], 1)
theorem mkX5_init : za_mk mX5_init 5 := ⟨(tm_3 (List.mem_of_getElem? (i := 166) (by decide +kernel))), (tm_1 (List.mem_of_getElem? (i := 23) (by decide +kernel))), ⟨by decide +kernel, by decide +kernel⟩, by decide +kernel, by decide⟩
abbrev mX6_init : za_M := (yX6_init, cX6_init, 3, none, [], 1)
theorem mkX6_init : za_mk mX6_init 2 := ⟨(tm_3 (List.mem_of_getElem? (i := 228) (by decide +kernel))), (tm_1 (List.mem_of_getElem? (i := 24) (by decide +kernel))), ⟨by decide +kernel, by decide +kernel⟩, by decide +kernel, by decide⟩
abbrev mJ9_max_7cf53 : za_M := (yJ9_max_7cf53, cJ9_max_7cf53, 2, (some .int), [], 0)
theorem mkJ9_max_7cf53 : za_mk mJ9_max_7cf53 2 := ⟨(tm_2 (List.mem_of_getElem? (i := 11) (by decide +kernel))), (tm_1 (List.mem_of_getElem? (i := 13) (by decide +kernel))), ⟨by decide +kernel, by decide +kernel⟩, by decide +kernel, by decide⟩
abbrev mJ9_min_7cf53 : za_M := (yJ9_min_7cf53, cJ9_min_7cf53, 2, (some .int), [], 0)
theorem mkJ9_min_7cf53 : za_mk mJ9_min_7cf53 2 := ⟨(tm_2 (List.mem_of_getElem? (i := 44) (by decide +kernel))), (tm_1 (List.mem_of_getElem? (i := 13) (by decide +kernel))), ⟨by decide +kernel, by decide +kernel⟩, by decide +kernel, by decide⟩
abbrev mJxa1e45_init_da8c8 : za_M := (yJxa1e45_init_da8c8, cJxa1e45_init_da8c8, 1, none, [], 1)
theorem mkJxa1e45_init_da8c8 : za_mk mJxa1e45_init_da8c8 0 := ⟨(tm_1 (List.mem_of_getElem? (i := 43) (by decide +kernel))), (tm_1 (List.mem_of_getElem? (i := 2) (by decide +kernel))), ⟨by decide +kernel, by decide +kernel⟩, by decide +kernel, by decide⟩
abbrev mJxc12de_init_da8c8 : za_M := (yJxc12de_init_da8c8, cJxc12de_init_da8c8, 1, none, [], 2)
theorem mkJxc12de_init_da8c8 : za_mk mJxc12de_init_da8c8 0 := ⟨(tm_1 (List.mem_of_getElem? (i := 40) (by decide +kernel))), (tm_1 (List.mem_of_getElem? (i := 3) (by decide +kernel))), ⟨by decide +kernel, by decide +kernel⟩, by decide +kernel, by decide⟩
abbrev mJx4a65c_init_da8c8 : za_M := (yJx4a65c_init_da8c8, cJx4a65c_init_da8c8, 1, none, [], 3)
theorem mkJx4a65c_init_da8c8 : za_mk mJx4a65c_init_da8c8 0 := ⟨(tm_1 (List.mem_of_getElem? (i := 37) (by decide +kernel))), (tm_1 (List.mem_of_getElem? (i := 4) (by decide +kernel))), ⟨by decide +kernel, by decide +kernel⟩, by decide +kernel, by decide⟩
abbrev mJx4a65c_grow_92f84 : za_M := (yJx4a65c_grow_92f84, cJx4a65c_grow_92f84, 4, (some (.array (.object "java/lang/Object"))), [], 3)
theorem mkJx4a65c_grow_92f84 : za_mk mJx4a65c_grow_92f84 1 := ⟨(tm_2 (List.mem_of_getElem? (i := 5) (by decide +kernel))), (tm_1 (List.mem_of_getElem? (i := 4) (by decide +kernel))), ⟨by decide +kernel, by decide +kernel⟩, by decide +kernel, by decide⟩
abbrev mJx4a65c_grow_d5877 : za_M := (yJx4a65c_grow_d5877, cJx4a65c_grow_d5877, 1, (some (.array (.object "java/lang/Object"))), [], 4)
theorem mkJx4a65c_grow_d5877 : za_mk mJx4a65c_grow_d5877 0 := ⟨(tm_2 (List.mem_of_getElem? (i := 1) (by decide +kernel))), (tm_1 (List.mem_of_getElem? (i := 4) (by decide +kernel))), ⟨by decide +kernel, by decide +kernel⟩, by decide +kernel, by decide⟩
abbrev mJx4a65c_size_8abf5 : za_M := (yJx4a65c_size_8abf5, cJx4a65c_size_8abf5, 1, (some .int), [], 0)
theorem mkJx4a65c_size_8abf5 : za_mk mJx4a65c_size_8abf5 0 := ⟨(tm_1 (List.mem_of_getElem? (i := 213) (by decide +kernel))), (tm_1 (List.mem_of_getElem? (i := 4) (by decide +kernel))), ⟨by decide +kernel, by decide +kernel⟩, by decide +kernel, by decide⟩
abbrev mJx4a65c_elementData_915e3 : za_M := (yJx4a65c_elementData_915e3, cJx4a65c_elementData_915e3, 2, (some (.object "java/lang/Object")), [], 0)
theorem mkJx4a65c_elementData_915e3 : za_mk mJx4a65c_elementData_915e3 1 := ⟨(tm_2 (List.mem_of_getElem? (i := 118) (by decide +kernel))), (tm_1 (List.mem_of_getElem? (i := 4) (by decide +kernel))), ⟨by decide +kernel, by decide +kernel⟩, by decide +kernel, by decide⟩
abbrev mJx4a65c_get_915e3 : za_M := (yJx4a65c_get_915e3, cJx4a65c_get_915e3, 2, (some (.object "java/lang/Object")), [], 2)
theorem mkJx4a65c_get_915e3 : za_mk mJx4a65c_get_915e3 1 := ⟨(tm_2 (List.mem_of_getElem? (i := 108) (by decide +kernel))), (tm_1 (List.mem_of_getElem? (i := 4) (by decide +kernel))), ⟨by decide +kernel, by decide +kernel⟩, by decide +kernel, by decide⟩
abbrev mJx4a65c_add_72be8 : za_M := (yJx4a65c_add_72be8, cJx4a65c_add_72be8, 4, none, [], 5)
theorem mkJx4a65c_add_72be8 : za_mk mJx4a65c_add_72be8 3 := ⟨(tm_1 (List.mem_of_getElem? (i := 237) (by decide +kernel))), (tm_1 (List.mem_of_getElem? (i := 4) (by decide +kernel))), ⟨by decide +kernel, by decide +kernel⟩, by decide +kernel, by decide⟩
abbrev mJx4a65c_add_9ea2d : za_M := (yJx4a65c_add_9ea2d, cJx4a65c_add_9ea2d, 2, (some .boolean), [], 6)
theorem mkJx4a65c_add_9ea2d : za_mk mJx4a65c_add_9ea2d 1 := ⟨(tm_1 (List.mem_of_getElem? (i := 233) (by decide +kernel))), (tm_1 (List.mem_of_getElem? (i := 4) (by decide +kernel))), ⟨by decide +kernel, by decide +kernel⟩, by decide +kernel, by decide⟩
abbrev mJx4a65c_clear_da8c8 : za_M := (yJx4a65c_clear_da8c8, cJx4a65c_clear_da8c8, 4, none, [], 0)
theorem mkJx4a65c_clear_da8c8 : za_mk mJx4a65c_clear_da8c8 0 := ⟨(tm_3 (List.mem_of_getElem? (i := 25) (by decide +kernel))), (tm_1 (List.mem_of_getElem? (i := 4) (by decide +kernel))), ⟨by decide +kernel, by decide +kernel⟩, by decide +kernel, by decide⟩
abbrev mJ7_copyOf_1904c : za_M := (yJ7_copyOf_1904c, cJ7_copyOf_1904c, 2, (some (.array (.object "java/lang/Object"))), [], 2)
theorem mkJ7_copyOf_1904c : za_mk mJ7_copyOf_1904c 2 := ⟨(tm_2 (List.mem_of_getElem? (i := 18) (by decide +kernel))), (tm_1 (List.mem_of_getElem? (i := 14) (by decide +kernel))), ⟨by decide +kernel, by decide +kernel⟩, by decide +kernel, by decide⟩
abbrev mJ7_copyOf_6403c : za_M := (yJ7_copyOf_6403c, cJ7_copyOf_6403c, 4, (some (.array (.object "java/lang/Object"))), [], 1)
theorem mkJ7_copyOf_6403c : za_mk mJ7_copyOf_6403c 3 := ⟨(tm_2 (List.mem_of_getElem? (i := 38) (by decide +kernel))), (tm_1 (List.mem_of_getElem? (i := 14) (by decide +kernel))), ⟨by decide +kernel, by decide +kernel⟩, by decide +kernel, by decide⟩
abbrev mJ15_checkIndex_7cf53 : za_M := (yJ15_checkIndex_7cf53, cJ15_checkIndex_7cf53, 2, (some .int), [], 1)
theorem mkJ15_checkIndex_7cf53 : za_mk mJ15_checkIndex_7cf53 2 := ⟨(tm_2 (List.mem_of_getElem? (i := 111) (by decide +kernel))), (tm_1 (List.mem_of_getElem? (i := 17) (by decide +kernel))), ⟨by decide +kernel, by decide +kernel⟩, by decide +kernel, by decide⟩
abbrev mJ8_newLength_cabcc : za_M := (yJ8_newLength_cabcc, cJ8_newLength_cabcc, 4, (some .int), [], 1)
theorem mkJ8_newLength_cabcc : za_mk mJ8_newLength_cabcc 3 := ⟨(tm_2 (List.mem_of_getElem? (i := 8) (by decide +kernel))), (tm_1 (List.mem_of_getElem? (i := 12) (by decide +kernel))), ⟨by decide +kernel, by decide +kernel⟩, by decide +kernel, by decide⟩
abbrev mJ8_hugeLength_7cf53 : za_M := (yJ8_hugeLength_7cf53, cJ8_hugeLength_7cf53, 3, (some .int), [], 0)
theorem mkJ8_hugeLength_7cf53 : za_mk mJ8_hugeLength_7cf53 2 := ⟨(tm_2 (List.mem_of_getElem? (i := 15) (by decide +kernel))), (tm_1 (List.mem_of_getElem? (i := 12) (by decide +kernel))), ⟨by decide +kernel, by decide +kernel⟩, by decide +kernel, by decide⟩
abbrev mJ3_checkIndex_8e157 : za_M := (yJ3_checkIndex_8e157, cJ3_checkIndex_8e157, 3, (some .int), [], 0)
theorem mkJ3_checkIndex_8e157 : za_mk mJ3_checkIndex_8e157 3 := ⟨(tm_2 (List.mem_of_getElem? (i := 114) (by decide +kernel))), (tm_1 (List.mem_of_getElem? (i := 18) (by decide +kernel))), ⟨by decide +kernel, by decide +kernel⟩, by decide +kernel, by decide⟩
abbrev mX8_init : za_M := (yX8_init, cX8_init, 1, none, [], 1)
theorem mkX8_init : za_mk mX8_init 0 := ⟨(tm_4 (List.mem_of_getElem? (i := 158) (by decide +kernel))), (tm_1 (List.mem_of_getElem? (i := 5) (by decide +kernel))), ⟨by decide +kernel, by decide +kernel⟩, by decide +kernel, by decide⟩
abbrev mX8_thrown : za_M := (yX8_thrown, cX8_thrown, 1, (some .int), [], 0)
theorem mkX8_thrown : za_mk mX8_thrown 0 := ⟨(tm_5 (List.mem_of_getElem? (i := 77) (by decide +kernel))), (tm_1 (List.mem_of_getElem? (i := 5) (by decide +kernel))), ⟨by decide +kernel, by decide +kernel⟩, by decide +kernel, by decide⟩
abbrev mX8_in : za_M := (yX8_in, cX8_in, 3, (some .boolean), [], 0)
theorem mkX8_in : za_mk mX8_in 3 := ⟨(tm_5 (List.mem_of_getElem? (i := 84) (by decide +kernel))), (tm_1 (List.mem_of_getElem? (i := 5) (by decide +kernel))), ⟨by decide +kernel, by decide +kernel⟩, by decide +kernel, by decide⟩
abbrev mX8_isFine : za_M := (yX8_isFine, cX8_isFine, 2, (some .boolean), [], 0)
theorem mkX8_isFine : za_mk mX8_isFine 1 := ⟨(tm_5 (List.mem_of_getElem? (i := 88) (by decide +kernel))), (tm_1 (List.mem_of_getElem? (i := 5) (by decide +kernel))), ⟨by decide +kernel, by decide +kernel⟩, by decide +kernel, by decide⟩
abbrev mX8_isItem : za_M := (yX8_isItem, cX8_isItem, 2, (some .boolean), [], 1)
theorem mkX8_isItem : za_mk mX8_isItem 1 := ⟨(tm_5 (List.mem_of_getElem? (i := 128) (by decide +kernel))), (tm_1 (List.mem_of_getElem? (i := 5) (by decide +kernel))), ⟨by decide +kernel, by decide +kernel⟩, by decide +kernel, by decide⟩
abbrev mX8_isDownload : za_M := (yX8_isDownload, cX8_isDownload, 2, (some .boolean), [], 1)
theorem mkX8_isDownload : za_mk mX8_isDownload 1 := ⟨(tm_5 (List.mem_of_getElem? (i := 191) (by decide +kernel))), (tm_1 (List.mem_of_getElem? (i := 5) (by decide +kernel))), ⟨by decide +kernel, by decide +kernel⟩, by decide +kernel, by decide⟩
abbrev mX8_drafts : za_M := (yX8_drafts, cX8_drafts, 4, (some .int), [], 0)
theorem mkX8_drafts : za_mk mX8_drafts 3 := ⟨(tm_5 (List.mem_of_getElem? (i := 92) (by decide +kernel))), (tm_1 (List.mem_of_getElem? (i := 5) (by decide +kernel))), ⟨by decide +kernel, by decide +kernel⟩, by decide +kernel, by decide⟩
abbrev mX8_talk : za_M := (yX8_talk, cX8_talk, 2, (some .int), [], 1)
theorem mkX8_talk : za_mk mX8_talk 1 := ⟨(tm_5 (List.mem_of_getElem? (i := 81) (by decide +kernel))), (tm_1 (List.mem_of_getElem? (i := 5) (by decide +kernel))), ⟨by decide +kernel, by decide +kernel⟩, by decide +kernel, by decide⟩
abbrev mX8_music : za_M := (yX8_music, cX8_music, 3, (some .int), [], 1)
theorem mkX8_music : za_mk mX8_music 2 := ⟨(tm_5 (List.mem_of_getElem? (i := 96) (by decide +kernel))), (tm_1 (List.mem_of_getElem? (i := 5) (by decide +kernel))), ⟨by decide +kernel, by decide +kernel⟩, by decide +kernel, by decide⟩
abbrev mX8_slot : za_M := (yX8_slot, cX8_slot, 2, (some .int), [], 1)
theorem mkX8_slot : za_mk mX8_slot 1 := ⟨(tm_5 (List.mem_of_getElem? (i := 100) (by decide +kernel))), (tm_1 (List.mem_of_getElem? (i := 5) (by decide +kernel))), ⟨by decide +kernel, by decide +kernel⟩, by decide +kernel, by decide⟩
abbrev mX8_isDraftOut : za_M := (yX8_isDraftOut, cX8_isDraftOut, 2, (some .boolean), [], 0)
theorem mkX8_isDraftOut : za_mk mX8_isDraftOut 1 := ⟨(tm_5 (List.mem_of_getElem? (i := 112) (by decide +kernel))), (tm_1 (List.mem_of_getElem? (i := 5) (by decide +kernel))), ⟨by decide +kernel, by decide +kernel⟩, by decide +kernel, by decide⟩
abbrev mX8_hasDraft : za_M := (yX8_hasDraft, cX8_hasDraft, 3, (some .boolean), [], 1)
theorem mkX8_hasDraft : za_mk mX8_hasDraft 0 := ⟨(tm_5 (List.mem_of_getElem? (i := 108) (by decide +kernel))), (tm_1 (List.mem_of_getElem? (i := 5) (by decide +kernel))), ⟨by decide +kernel, by decide +kernel⟩, by decide +kernel, by decide⟩
abbrev mX8_change : za_M := (yX8_change, cX8_change, 2, none, [], 0)
theorem mkX8_change : za_mk mX8_change 1 := ⟨(tm_5 (List.mem_of_getElem? (i := 120) (by decide +kernel))), (tm_1 (List.mem_of_getElem? (i := 5) (by decide +kernel))), ⟨by decide +kernel, by decide +kernel⟩, by decide +kernel, by decide⟩
abbrev mX8_release : za_M := (yX8_release, cX8_release, 2, none, [], 1)
theorem mkX8_release : za_mk mX8_release 1 := ⟨(tm_5 (List.mem_of_getElem? (i := 116) (by decide +kernel))), (tm_1 (List.mem_of_getElem? (i := 5) (by decide +kernel))), ⟨by decide +kernel, by decide +kernel⟩, by decide +kernel, by decide⟩
abbrev mX8_item : za_M := (yX8_item, cX8_item, 4, (some .int), [], 2)
theorem mkX8_item : za_mk mX8_item 2 := ⟨(tm_5 (List.mem_of_getElem? (i := 104) (by decide +kernel))), (tm_1 (List.mem_of_getElem? (i := 5) (by decide +kernel))), ⟨by decide +kernel, by decide +kernel⟩, by decide +kernel, by decide⟩
abbrev mX8_living : za_M := (yX8_living, cX8_living, 4, (some .int), [], 0)
theorem mkX8_living : za_mk mX8_living 1 := ⟨(tm_5 (List.mem_of_getElem? (i := 132) (by decide +kernel))), (tm_1 (List.mem_of_getElem? (i := 5) (by decide +kernel))), ⟨by decide +kernel, by decide +kernel⟩, by decide +kernel, by decide⟩
abbrev mX8_cut : za_M := (yX8_cut, cX8_cut, 5, (some .int), [], 2)
theorem mkX8_cut : za_mk mX8_cut 2 := ⟨(tm_5 (List.mem_of_getElem? (i := 124) (by decide +kernel))), (tm_1 (List.mem_of_getElem? (i := 5) (by decide +kernel))), ⟨by decide +kernel, by decide +kernel⟩, by decide +kernel, by decide⟩
abbrev mX8_withdraw : za_M := (yX8_withdraw, cX8_withdraw, 2, none, [], 2)
theorem mkX8_withdraw : za_mk mX8_withdraw 1 := ⟨(tm_5 (List.mem_of_getElem? (i := 136) (by decide +kernel))), (tm_1 (List.mem_of_getElem? (i := 5) (by decide +kernel))), ⟨by decide +kernel, by decide +kernel⟩, by decide +kernel, by decide⟩
abbrev mX8_songOut : za_M := (yX8_songOut, cX8_songOut, 7, (some .int), [], 1)
theorem mkX8_songOut : za_mk mX8_songOut 1 := ⟨(tm_5 (List.mem_of_getElem? (i := 140) (by decide +kernel))), (tm_1 (List.mem_of_getElem? (i := 5) (by decide +kernel))), ⟨by decide +kernel, by decide +kernel⟩, by decide +kernel, by decide⟩
abbrev mX8_pass : za_M := (yX8_pass, cX8_pass, 4, (some .int), [], 2)
theorem mkX8_pass : za_mk mX8_pass 1 := ⟨(tm_5 (List.mem_of_getElem? (i := 144) (by decide +kernel))), (tm_1 (List.mem_of_getElem? (i := 5) (by decide +kernel))), ⟨by decide +kernel, by decide +kernel⟩, by decide +kernel, by decide⟩
abbrev mX8_app : za_M := (yX8_app, cX8_app, 2, (some .int), [], 1)
theorem mkX8_app : za_mk mX8_app 1 := ⟨(tm_5 (List.mem_of_getElem? (i := 148) (by decide +kernel))), (tm_1 (List.mem_of_getElem? (i := 5) (by decide +kernel))), ⟨by decide +kernel, by decide +kernel⟩, by decide +kernel, by decide⟩
abbrev mX8_wasTold : za_M := (yX8_wasTold, cX8_wasTold, 5, (some .boolean), [], 0)
theorem mkX8_wasTold : za_mk mX8_wasTold 2 := ⟨(tm_5 (List.mem_of_getElem? (i := 156) (by decide +kernel))), (tm_1 (List.mem_of_getElem? (i := 5) (by decide +kernel))), ⟨by decide +kernel, by decide +kernel⟩, by decide +kernel, by decide⟩
abbrev mX8_poll : za_M := (yX8_poll, cX8_poll, 3, (some .int), [], 1)
theorem mkX8_poll : za_mk mX8_poll 1 := ⟨(tm_5 (List.mem_of_getElem? (i := 152) (by decide +kernel))), (tm_1 (List.mem_of_getElem? (i := 5) (by decide +kernel))), ⟨by decide +kernel, by decide +kernel⟩, by decide +kernel, by decide⟩
abbrev mX8_areRight : za_M := (yX8_areRight, cX8_areRight, 8, (some .boolean), [], 1)
theorem mkX8_areRight : za_mk mX8_areRight 7 := ⟨(tm_5 (List.mem_of_getElem? (i := 163) (by decide +kernel))), (tm_1 (List.mem_of_getElem? (i := 5) (by decide +kernel))), ⟨by decide +kernel, by decide +kernel⟩, by decide +kernel, by decide⟩
abbrev mX8_campaign : za_M := (yX8_campaign, cX8_campaign, 9, (some .int), [], 2)
theorem mkX8_campaign : za_mk mX8_campaign 7 := ⟨(tm_5 (List.mem_of_getElem? (i := 160) (by decide +kernel))), (tm_1 (List.mem_of_getElem? (i := 5) (by decide +kernel))), ⟨by decide +kernel, by decide +kernel⟩, by decide +kernel, by decide⟩
abbrev mX8_due : za_M := (yX8_due, cX8_due, 2, (some .int), [], 1)
theorem mkX8_due : za_mk mX8_due 1 := ⟨(tm_5 (List.mem_of_getElem? (i := 179) (by decide +kernel))), (tm_1 (List.mem_of_getElem? (i := 5) (by decide +kernel))), ⟨by decide +kernel, by decide +kernel⟩, by decide +kernel, by decide⟩
abbrev mX8_gotToday : za_M := (yX8_gotToday, cX8_gotToday, 6, (some .int), [], 0)
theorem mkX8_gotToday : za_mk mX8_gotToday 2 := ⟨(tm_5 (List.mem_of_getElem? (i := 183) (by decide +kernel))), (tm_1 (List.mem_of_getElem? (i := 5) (by decide +kernel))), ⟨by decide +kernel, by decide +kernel⟩, by decide +kernel, by decide⟩
abbrev mX8_hasGroup : za_M := (yX8_hasGroup, cX8_hasGroup, 5, (some .boolean), [], 0)
theorem mkX8_hasGroup : za_mk mX8_hasGroup 2 := ⟨(tm_5 (List.mem_of_getElem? (i := 175) (by decide +kernel))), (tm_1 (List.mem_of_getElem? (i := 5) (by decide +kernel))), ⟨by decide +kernel, by decide +kernel⟩, by decide +kernel, by decide⟩
abbrev mX8_adFor : za_M := (yX8_adFor, cX8_adFor, 7, (some .int), [], 2)
theorem mkX8_adFor : za_mk mX8_adFor 1 := ⟨(tm_5 (List.mem_of_getElem? (i := 171) (by decide +kernel))), (tm_1 (List.mem_of_getElem? (i := 5) (by decide +kernel))), ⟨by decide +kernel, by decide +kernel⟩, by decide +kernel, by decide⟩
abbrev mX8_ask : za_M := (yX8_ask, cX8_ask, 8, (some .int), [], 3)
theorem mkX8_ask : za_mk mX8_ask 2 := ⟨(tm_5 (List.mem_of_getElem? (i := 167) (by decide +kernel))), (tm_1 (List.mem_of_getElem? (i := 5) (by decide +kernel))), ⟨by decide +kernel, by decide +kernel⟩, by decide +kernel, by decide⟩
abbrev mX8_load : za_M := (yX8_load, cX8_load, 6, (some .int), [], 2)
theorem mkX8_load : za_mk mX8_load 3 := ⟨(tm_5 (List.mem_of_getElem? (i := 187) (by decide +kernel))), (tm_1 (List.mem_of_getElem? (i := 5) (by decide +kernel))), ⟨by decide +kernel, by decide +kernel⟩, by decide +kernel, by decide⟩
abbrev mX8_bot : za_M := (yX8_bot, cX8_bot, 4, (some .boolean), [], 1)
theorem mkX8_bot : za_mk mX8_bot 2 := ⟨(tm_5 (List.mem_of_getElem? (i := 195) (by decide +kernel))), (tm_1 (List.mem_of_getElem? (i := 5) (by decide +kernel))), ⟨by decide +kernel, by decide +kernel⟩, by decide +kernel, by decide⟩
abbrev mX8_pieceSeconds : za_M := (yX8_pieceSeconds, cX8_pieceSeconds, 4, (some .int), [], 0)
theorem mkX8_pieceSeconds : za_mk mX8_pieceSeconds 2 := ⟨(tm_5 (List.mem_of_getElem? (i := 223) (by decide +kernel))), (tm_1 (List.mem_of_getElem? (i := 5) (by decide +kernel))), ⟨by decide +kernel, by decide +kernel⟩, by decide +kernel, by decide⟩
abbrev mX8_startOf : za_M := (yX8_startOf, cX8_startOf, 5, (some .int), [], 1)
theorem mkX8_startOf : za_mk mX8_startOf 2 := ⟨(tm_5 (List.mem_of_getElem? (i := 219) (by decide +kernel))), (tm_1 (List.mem_of_getElem? (i := 5) (by decide +kernel))), ⟨by decide +kernel, by decide +kernel⟩, by decide +kernel, by decide⟩
abbrev mX8_isSound : za_M := (yX8_isSound, cX8_isSound, 3, (some .boolean), [], 0)
theorem mkX8_isSound : za_mk mX8_isSound 2 := ⟨(tm_5 (List.mem_of_getElem? (i := 211) (by decide +kernel))), (tm_1 (List.mem_of_getElem? (i := 5) (by decide +kernel))), ⟨by decide +kernel, by decide +kernel⟩, by decide +kernel, by decide⟩
abbrev mX8_lastLoaded : za_M := (yX8_lastLoaded, cX8_lastLoaded, 6, (some .int), [], 2)
theorem mkX8_lastLoaded : za_mk mX8_lastLoaded 2 := ⟨(tm_5 (List.mem_of_getElem? (i := 215) (by decide +kernel))), (tm_1 (List.mem_of_getElem? (i := 5) (by decide +kernel))), ⟨by decide +kernel, by decide +kernel⟩, by decide +kernel, by decide⟩
abbrev mX8_isHeard : za_M := (yX8_isHeard, cX8_isHeard, 6, (some .boolean), [], 2)
theorem mkX8_isHeard : za_mk mX8_isHeard 2 := ⟨(tm_6 (List.mem_of_getElem? (i := 19) (by decide +kernel))), (tm_1 (List.mem_of_getElem? (i := 5) (by decide +kernel))), ⟨by decide +kernel, by decide +kernel⟩, by decide +kernel, by decide⟩
abbrev mX8_isOf : za_M := (yX8_isOf, cX8_isOf, 4, (some .boolean), [], 0)
theorem mkX8_isOf : za_mk mX8_isOf 3 := ⟨(tm_5 (List.mem_of_getElem? (i := 207) (by decide +kernel))), (tm_1 (List.mem_of_getElem? (i := 5) (by decide +kernel))), ⟨by decide +kernel, by decide +kernel⟩, by decide +kernel, by decide⟩
abbrev mX8_reach : za_M := (yX8_reach, cX8_reach, 8, (some .int), [], 3)
theorem mkX8_reach : za_mk mX8_reach 2 := ⟨(tm_6 (List.mem_of_getElem? (i := 31) (by decide +kernel))), (tm_1 (List.mem_of_getElem? (i := 5) (by decide +kernel))), ⟨by decide +kernel, by decide +kernel⟩, by decide +kernel, by decide⟩
abbrev mX8_goesOn : za_M := (yX8_goesOn, cX8_goesOn, 7, (some .int), [], 4)
theorem mkX8_goesOn : za_mk mX8_goesOn 1 := ⟨(tm_6 (List.mem_of_getElem? (i := 27) (by decide +kernel))), (tm_1 (List.mem_of_getElem? (i := 5) (by decide +kernel))), ⟨by decide +kernel, by decide +kernel⟩, by decide +kernel, by decide⟩
abbrev mX8_owes : za_M := (yX8_owes, cX8_owes, 8, (some .boolean), [], 3)
theorem mkX8_owes : za_mk mX8_owes 2 := ⟨(tm_5 (List.mem_of_getElem? (i := 203) (by decide +kernel))), (tm_1 (List.mem_of_getElem? (i := 5) (by decide +kernel))), ⟨by decide +kernel, by decide +kernel⟩, by decide +kernel, by decide⟩
abbrev mX8_tell : za_M := (yX8_tell, cX8_tell, 5, (some .boolean), [], 4)
theorem mkX8_tell : za_mk mX8_tell 2 := ⟨(tm_5 (List.mem_of_getElem? (i := 199) (by decide +kernel))), (tm_1 (List.mem_of_getElem? (i := 5) (by decide +kernel))), ⟨by decide +kernel, by decide +kernel⟩, by decide +kernel, by decide⟩
abbrev mX8_hour : za_M := (yX8_hour, cX8_hour, 1, (some .int), [], 1)
theorem mkX8_hour : za_mk mX8_hour 0 := ⟨(tm_5 (List.mem_of_getElem? (i := 227) (by decide +kernel))), (tm_1 (List.mem_of_getElem? (i := 5) (by decide +kernel))), ⟨by decide +kernel, by decide +kernel⟩, by decide +kernel, by decide⟩
abbrev mX8_soundSeconds : za_M := (yX8_soundSeconds, cX8_soundSeconds, 4, (some .int), [], 0)
theorem mkX8_soundSeconds : za_mk mX8_soundSeconds 1 := ⟨(tm_5 (List.mem_of_getElem? (i := 235) (by decide +kernel))), (tm_1 (List.mem_of_getElem? (i := 5) (by decide +kernel))), ⟨by decide +kernel, by decide +kernel⟩, by decide +kernel, by decide⟩
abbrev mX8_askedFor : za_M := (yX8_askedFor, cX8_askedFor, 4, (some .int), [], 0)
theorem mkX8_askedFor : za_mk mX8_askedFor 1 := ⟨(tm_5 (List.mem_of_getElem? (i := 239) (by decide +kernel))), (tm_1 (List.mem_of_getElem? (i := 5) (by decide +kernel))), ⟨by decide +kernel, by decide +kernel⟩, by decide +kernel, by decide⟩
abbrev mX8_ofItem : za_M := (yX8_ofItem, cX8_ofItem, 3, (some .int), [], 2)
theorem mkX8_ofItem : za_mk mX8_ofItem 2 := ⟨(tm_5 (List.mem_of_getElem? (i := 231) (by decide +kernel))), (tm_1 (List.mem_of_getElem? (i := 5) (by decide +kernel))), ⟨by decide +kernel, by decide +kernel⟩, by decide +kernel, by decide⟩
abbrev mX8_ofPart : za_M := (yX8_ofPart, cX8_ofPart, 6, (some .int), [], 2)
theorem mkX8_ofPart : za_mk mX8_ofPart 3 := ⟨(tm_6 (List.mem_of_getElem? (i := 3) (by decide +kernel))), (tm_1 (List.mem_of_getElem? (i := 5) (by decide +kernel))), ⟨by decide +kernel, by decide +kernel⟩, by decide +kernel, by decide⟩
abbrev mX8_told : za_M := (yX8_told, cX8_told, 3, (some .int), [], 1)
theorem mkX8_told : za_mk mX8_told 2 := ⟨(tm_6 (List.mem_of_getElem? (i := 7) (by decide +kernel))), (tm_1 (List.mem_of_getElem? (i := 5) (by decide +kernel))), ⟨by decide +kernel, by decide +kernel⟩, by decide +kernel, by decide⟩
abbrev mX8_heardOf : za_M := (yX8_heardOf, cX8_heardOf, 5, (some .int), [], 3)
theorem mkX8_heardOf : za_mk mX8_heardOf 1 := ⟨(tm_6 (List.mem_of_getElem? (i := 15) (by decide +kernel))), (tm_1 (List.mem_of_getElem? (i := 5) (by decide +kernel))), ⟨by decide +kernel, by decide +kernel⟩, by decide +kernel, by decide⟩
abbrev mX8_ofCampaign : za_M := (yX8_ofCampaign, cX8_ofCampaign, 3, (some .int), [], 4)
theorem mkX8_ofCampaign : za_mk mX8_ofCampaign 2 := ⟨(tm_6 (List.mem_of_getElem? (i := 11) (by decide +kernel))), (tm_1 (List.mem_of_getElem? (i := 5) (by decide +kernel))), ⟨by decide +kernel, by decide +kernel⟩, by decide +kernel, by decide⟩
abbrev mX8_ofDownload : za_M := (yX8_ofDownload, cX8_ofDownload, 3, (some .int), [], 5)
theorem mkX8_ofDownload : za_mk mX8_ofDownload 2 := ⟨(tm_6 (List.mem_of_getElem? (i := 23) (by decide +kernel))), (tm_1 (List.mem_of_getElem? (i := 5) (by decide +kernel))), ⟨by decide +kernel, by decide +kernel⟩, by decide +kernel, by decide⟩
abbrev mX8_ad : za_M := (yX8_ad, cX8_ad, 3, (some .int), [], 2)
theorem mkX8_ad : za_mk mX8_ad 2 := ⟨(tm_6 (List.mem_of_getElem? (i := 35) (by decide +kernel))), (tm_1 (List.mem_of_getElem? (i := 5) (by decide +kernel))), ⟨by decide +kernel, by decide +kernel⟩, by decide +kernel, by decide⟩
abbrev mX8_loadedAnew : za_M := (yX8_loadedAnew, cX8_loadedAnew, 6, (some .int), [], 2)
theorem mkX8_loadedAnew : za_mk mX8_loadedAnew 1 := ⟨(tm_6 (List.mem_of_getElem? (i := 39) (by decide +kernel))), (tm_1 (List.mem_of_getElem? (i := 5) (by decide +kernel))), ⟨by decide +kernel, by decide +kernel⟩, by decide +kernel, by decide⟩
abbrev mX8_judge : za_M := (yX8_judge, cX8_judge, 5, none, [], 1)
theorem mkX8_judge : za_mk mX8_judge 0 := ⟨(tm_6 (List.mem_of_getElem? (i := 47) (by decide +kernel))), (tm_1 (List.mem_of_getElem? (i := 5) (by decide +kernel))), ⟨by decide +kernel, by decide +kernel⟩, by decide +kernel, by decide⟩
abbrev mX8_counts : za_M := (yX8_counts, cX8_counts, 3, (some .boolean), [], 2)
theorem mkX8_counts : za_mk mX8_counts 2 := ⟨(tm_6 (List.mem_of_getElem? (i := 43) (by decide +kernel))), (tm_1 (List.mem_of_getElem? (i := 5) (by decide +kernel))), ⟨by decide +kernel, by decide +kernel⟩, by decide +kernel, by decide⟩
abbrev mX8_count : za_M := (yX8_count, cX8_count, 5, (some .int), [], 2)
theorem mkX8_count : za_mk mX8_count 2 := ⟨(tm_6 (List.mem_of_getElem? (i := 51) (by decide +kernel))), (tm_1 (List.mem_of_getElem? (i := 5) (by decide +kernel))), ⟨by decide +kernel, by decide +kernel⟩, by decide +kernel, by decide⟩
abbrev mX8_isOwed : za_M := (yX8_isOwed, cX8_isOwed, 3, (some .boolean), [], 4)
theorem mkX8_isOwed : za_mk mX8_isOwed 2 := ⟨(tm_6 (List.mem_of_getElem? (i := 55) (by decide +kernel))), (tm_1 (List.mem_of_getElem? (i := 5) (by decide +kernel))), ⟨by decide +kernel, by decide +kernel⟩, by decide +kernel, by decide⟩
abbrev mL_talk : za_M := (yL_talk, cL_talk, 4, (some .int), [(0, 9, 12, 13), (0, 9, 15, 15)], 9)
theorem mkL_talk : za_mk mL_talk 3 := ⟨(tm_1 (List.mem_of_getElem? (i := 96) (by decide +kernel))), (tm_1 (List.mem_of_getElem? (i := 0) (by decide +kernel))), ⟨by decide +kernel, by decide +kernel⟩, by decide +kernel, by decide⟩
abbrev mL_music : za_M := (yL_music, cL_music, 5, (some .int), [(0, 10, 13, 21), (0, 10, 17, 13), (0, 10, 21, 15)], 9)
theorem mkL_music : za_mk mL_music 4 := ⟨(tm_2 (List.mem_of_getElem? (i := 52) (by decide +kernel))), (tm_1 (List.mem_of_getElem? (i := 0) (by decide +kernel))), ⟨by decide +kernel, by decide +kernel⟩, by decide +kernel, by decide⟩
abbrev mL_slot : za_M := (yL_slot, cL_slot, 4, (some .int), [(0, 9, 12, 13), (0, 9, 15, 15)], 9)
theorem mkL_slot : za_mk mL_slot 3 := ⟨(tm_2 (List.mem_of_getElem? (i := 83) (by decide +kernel))), (tm_1 (List.mem_of_getElem? (i := 0) (by decide +kernel))), ⟨by decide +kernel, by decide +kernel⟩, by decide +kernel, by decide⟩
abbrev mL_item : za_M := (yL_item, cL_item, 5, (some .int), [(0, 10, 13, 21), (0, 10, 17, 13), (0, 10, 21, 15)], 9)
theorem mkL_item : za_mk mL_item 4 := ⟨(tm_2 (List.mem_of_getElem? (i := 91) (by decide +kernel))), (tm_1 (List.mem_of_getElem? (i := 0) (by decide +kernel))), ⟨by decide +kernel, by decide +kernel⟩, by decide +kernel, by decide⟩
abbrev mL_cut : za_M := (yL_cut, cL_cut, 5, (some .int), [(0, 10, 13, 21), (0, 10, 17, 15)], 9)
theorem mkL_cut : za_mk mL_cut 4 := ⟨(tm_2 (List.mem_of_getElem? (i := 172) (by decide +kernel))), (tm_1 (List.mem_of_getElem? (i := 0) (by decide +kernel))), ⟨by decide +kernel, by decide +kernel⟩, by decide +kernel, by decide⟩
abbrev mL_withdraw : za_M := (yL_withdraw, cL_withdraw, 3, (some .int), [(0, 5, 8, 21), (0, 5, 11, 15)], 9)
theorem mkL_withdraw : za_mk mL_withdraw 2 := ⟨(tm_2 (List.mem_of_getElem? (i := 192) (by decide +kernel))), (tm_1 (List.mem_of_getElem? (i := 0) (by decide +kernel))), ⟨by decide +kernel, by decide +kernel⟩, by decide +kernel, by decide⟩
abbrev mL_songOut : za_M := (yL_songOut, cL_songOut, 4, (some .int), [(0, 9, 12, 21), (0, 9, 15, 15)], 9)
theorem mkL_songOut : za_mk mL_songOut 3 := ⟨(tm_2 (List.mem_of_getElem? (i := 200) (by decide +kernel))), (tm_1 (List.mem_of_getElem? (i := 0) (by decide +kernel))), ⟨by decide +kernel, by decide +kernel⟩, by decide +kernel, by decide⟩
abbrev mL_pass : za_M := (yL_pass, cL_pass, 4, (some .int), [(0, 9, 12, 13), (0, 9, 15, 15)], 9)
theorem mkL_pass : za_mk mL_pass 3 := ⟨(tm_2 (List.mem_of_getElem? (i := 210) (by decide +kernel))), (tm_1 (List.mem_of_getElem? (i := 0) (by decide +kernel))), ⟨by decide +kernel, by decide +kernel⟩, by decide +kernel, by decide⟩
abbrev mL_app : za_M := (yL_app, cL_app, 4, (some .int), [(0, 9, 12, 21), (0, 9, 15, 15)], 8)
theorem mkL_app : za_mk mL_app 3 := ⟨(tm_2 (List.mem_of_getElem? (i := 223) (by decide +kernel))), (tm_1 (List.mem_of_getElem? (i := 0) (by decide +kernel))), ⟨by decide +kernel, by decide +kernel⟩, by decide +kernel, by decide⟩
abbrev mL_poll : za_M := (yL_poll, cL_poll, 4, (some .int), [(0, 9, 12, 21)], 8)
theorem mkL_poll : za_mk mL_poll 3 := ⟨(tm_3 (List.mem_of_getElem? (i := 12) (by decide +kernel))), (tm_1 (List.mem_of_getElem? (i := 0) (by decide +kernel))), ⟨by decide +kernel, by decide +kernel⟩, by decide +kernel, by decide⟩
abbrev mL_campaign : za_M := (yL_campaign, cL_campaign, 10, (some .int), [(0, 20, 23, 13), (0, 20, 27, 15)], 8)
theorem mkL_campaign : za_mk mL_campaign 9 := ⟨(tm_3 (List.mem_of_getElem? (i := 29) (by decide +kernel))), (tm_1 (List.mem_of_getElem? (i := 0) (by decide +kernel))), ⟨by decide +kernel, by decide +kernel⟩, by decide +kernel, by decide⟩
abbrev mL_ask : za_M := (yL_ask, cL_ask, 5, (some .int), [(0, 10, 13, 21), (0, 10, 17, 15)], 10)
theorem mkL_ask : za_mk mL_ask 4 := ⟨(tm_3 (List.mem_of_getElem? (i := 80) (by decide +kernel))), (tm_1 (List.mem_of_getElem? (i := 0) (by decide +kernel))), ⟨by decide +kernel, by decide +kernel⟩, by decide +kernel, by decide⟩
abbrev mL_load : za_M := (yL_load, cL_load, 6, (some .int), [(0, 12, 15, 21), (0, 12, 19, 13), (0, 12, 23, 15)], 9)
theorem mkL_load : za_mk mL_load 5 := ⟨(tm_3 (List.mem_of_getElem? (i := 193) (by decide +kernel))), (tm_1 (List.mem_of_getElem? (i := 0) (by decide +kernel))), ⟨by decide +kernel, by decide +kernel⟩, by decide +kernel, by decide⟩
abbrev mL_bot : za_M := (yL_bot, cL_bot, 5, (some .int), [(0, 17, 20, 21)], 8)
theorem mkL_bot : za_mk mL_bot 4 := ⟨(tm_4 (List.mem_of_getElem? (i := 1) (by decide +kernel))), (tm_1 (List.mem_of_getElem? (i := 0) (by decide +kernel))), ⟨by decide +kernel, by decide +kernel⟩, by decide +kernel, by decide⟩
abbrev mL_tell : za_M := (yL_tell, cL_tell, 5, (some .int), [(0, 17, 20, 21)], 8)
theorem mkL_tell : za_mk mL_tell 4 := ⟨(tm_4 (List.mem_of_getElem? (i := 8) (by decide +kernel))), (tm_1 (List.mem_of_getElem? (i := 0) (by decide +kernel))), ⟨by decide +kernel, by decide +kernel⟩, by decide +kernel, by decide⟩
abbrev mL_ofItem : za_M := (yL_ofItem, cL_ofItem, 5, (some .int), [(0, 10, 13, 21), (0, 10, 17, 13)], 8)
theorem mkL_ofItem : za_mk mL_ofItem 4 := ⟨(tm_4 (List.mem_of_getElem? (i := 32) (by decide +kernel))), (tm_1 (List.mem_of_getElem? (i := 0) (by decide +kernel))), ⟨by decide +kernel, by decide +kernel⟩, by decide +kernel, by decide⟩
abbrev mL_ofPart : za_M := (yL_ofPart, cL_ofPart, 6, (some .int), [(0, 12, 15, 21), (0, 12, 19, 13)], 8)
theorem mkL_ofPart : za_mk mL_ofPart 5 := ⟨(tm_4 (List.mem_of_getElem? (i := 48) (by decide +kernel))), (tm_1 (List.mem_of_getElem? (i := 0) (by decide +kernel))), ⟨by decide +kernel, by decide +kernel⟩, by decide +kernel, by decide⟩
abbrev mL_told : za_M := (yL_told, cL_told, 5, (some .int), [(0, 10, 13, 21)], 8)
theorem mkL_told : za_mk mL_told 4 := ⟨(tm_4 (List.mem_of_getElem? (i := 55) (by decide +kernel))), (tm_1 (List.mem_of_getElem? (i := 0) (by decide +kernel))), ⟨by decide +kernel, by decide +kernel⟩, by decide +kernel, by decide⟩
abbrev mL_ofCampaign : za_M := (yL_ofCampaign, cL_ofCampaign, 5, (some .int), [(0, 10, 13, 21), (0, 10, 17, 13)], 8)
theorem mkL_ofCampaign : za_mk mL_ofCampaign 4 := ⟨(tm_4 (List.mem_of_getElem? (i := 63) (by decide +kernel))), (tm_1 (List.mem_of_getElem? (i := 0) (by decide +kernel))), ⟨by decide +kernel, by decide +kernel⟩, by decide +kernel, by decide⟩
abbrev mL_ofDownload : za_M := (yL_ofDownload, cL_ofDownload, 5, (some .int), [(0, 10, 13, 21), (0, 10, 17, 13)], 8)
theorem mkL_ofDownload : za_mk mL_ofDownload 4 := ⟨(tm_4 (List.mem_of_getElem? (i := 83) (by decide +kernel))), (tm_1 (List.mem_of_getElem? (i := 0) (by decide +kernel))), ⟨by decide +kernel, by decide +kernel⟩, by decide +kernel, by decide⟩
abbrev mL_ad : za_M := (yL_ad, cL_ad, 5, (some .int), [(0, 10, 13, 21)], 8)
theorem mkL_ad : za_mk mL_ad 4 := ⟨(tm_4 (List.mem_of_getElem? (i := 102) (by decide +kernel))), (tm_1 (List.mem_of_getElem? (i := 0) (by decide +kernel))), ⟨by decide +kernel, by decide +kernel⟩, by decide +kernel, by decide⟩
abbrev mL_loadedAnew : za_M := (yL_loadedAnew, cL_loadedAnew, 4, (some .int), [(0, 9, 12, 21)], 8)
theorem mkL_loadedAnew : za_mk mL_loadedAnew 3 := ⟨(tm_4 (List.mem_of_getElem? (i := 111) (by decide +kernel))), (tm_1 (List.mem_of_getElem? (i := 0) (by decide +kernel))), ⟨by decide +kernel, by decide +kernel⟩, by decide +kernel, by decide⟩
abbrev mL_counts : za_M := (yL_counts, cL_counts, 5, (some .int), [(0, 17, 20, 21), (0, 17, 24, 13)], 8)
theorem mkL_counts : za_mk mL_counts 4 := ⟨(tm_4 (List.mem_of_getElem? (i := 119) (by decide +kernel))), (tm_1 (List.mem_of_getElem? (i := 0) (by decide +kernel))), ⟨by decide +kernel, by decide +kernel⟩, by decide +kernel, by decide⟩
abbrev mL_count : za_M := (yL_count, cL_count, 5, (some .int), [(0, 10, 13, 21), (0, 10, 17, 13)], 8)
theorem mkL_count : za_mk mL_count 4 := ⟨(tm_4 (List.mem_of_getElem? (i := 142) (by decide +kernel))), (tm_1 (List.mem_of_getElem? (i := 0) (by decide +kernel))), ⟨by decide +kernel, by decide +kernel⟩, by decide +kernel, by decide⟩
abbrev mL_isOwed : za_M := (yL_isOwed, cL_isOwed, 5, (some .int), [(0, 17, 20, 21)], 8)
theorem mkL_isOwed : za_mk mL_isOwed 4 := ⟨(tm_4 (List.mem_of_getElem? (i := 149) (by decide +kernel))), (tm_1 (List.mem_of_getElem? (i := 0) (by decide +kernel))), ⟨by decide +kernel, by decide +kernel⟩, by decide +kernel, by decide⟩
/-! links of each class -/
