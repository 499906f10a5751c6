/-! PRINTED BY wip/whole/gen/gen2.py: methods and links -/
theorem tm_1 {w : Jvm.Cond} (h : w ∈ tables_1_1) : w ∈ lw_tbl := List.mem_append_right _ (show w ∈ tables_1_1 ++ (tables_1_2 ++ tables_1_3) from List.mem_append_left _ h)
theorem tm_2 {w : Jvm.Cond} (h : w ∈ tables_1_2) : w ∈ lw_tbl := List.mem_append_right _ (show w ∈ tables_1_1 ++ (tables_1_2 ++ tables_1_3) from List.mem_append_right _ (List.mem_append_left _ h))
theorem tm_3 {w : Jvm.Cond} (h : w ∈ tables_1_3) : w ∈ lw_tbl := List.mem_append_right _ (show w ∈ tables_1_1 ++ (tables_1_2 ++ tables_1_3) from List.mem_append_right _ (List.mem_append_right _ (h)))
def za_lu {α : Type} : List (Nat × α) → Nat → Option α
  | [], _ => none
  | e :: t, i => if e.1 = i then some e.2 else za_lu t i
theorem za_lu_ok {α : Type} {l : List (Nat × α)} {Q : Nat → α → Prop} (h : ∀ e ∈ l, Q e.1 e.2) : ∀ i q, za_lu l i = some q → Q i q := by
  intro i q hq
  induction l with
  | nil => cases hq
  | cons e t ih =>
    unfold za_lu at hq
    split at hq
    · rename_i he
      cases hq
      rw [← he]
      exact h e List.mem_cons_self
    · exact ih (fun x hx => h x (List.mem_cons_of_mem _ hx)) hq
theorem za_nil {α : Type} {Q : α → Prop} : ∀ e ∈ ([] : List α), Q e := fun _ h => by cases h
theorem za_cons {α : Type} {Q : α → Prop} {a : α} {l : List α} (h : Q a) (t : ∀ e ∈ l, Q e) : ∀ e ∈ a :: l, Q e := List.forall_mem_cons.mpr ⟨h, t⟩
theorem uwJx4a65c : ∀ w ∈ u_ws RJx4a65c TJx4a65c 3, w ∈ lw_tbl := by decide +kernel
theorem uwX0 : ∀ w ∈ u_ws RX0 TX0 3, w ∈ lw_tbl := by decide +kernel
theorem uwX3 : ∀ w ∈ u_ws RX3 TX3 5, w ∈ lw_tbl := by decide +kernel
theorem uwX4 : ∀ w ∈ u_ws RX4 TX4 5, w ∈ lw_tbl := by decide +kernel
theorem uwX7 : ∀ w ∈ u_ws RX7 TX7 10, w ∈ lw_tbl := by decide +kernel
abbrev mX7_init : za_M := (yX7_init, cX7_init, 1, none, [], 4)
theorem mkX7_init : za_mk mX7_init 0 := ⟨(tm_1 (List.mem_of_getElem? (i := 24) (by decide +kernel))), (tm_1 (List.mem_of_getElem? (i := 1) (by decide +kernel))), ⟨by decide +kernel, by decide +kernel⟩, by decide +kernel, by decide⟩
abbrev mX7_talk : za_M := (yX7_talk, cX7_talk, 2, (some .int), [], 8)
theorem mkX7_talk : za_mk mX7_talk 1 := ⟨(tm_2 (List.mem_of_getElem? (i := 189) (by decide +kernel))), (tm_1 (List.mem_of_getElem? (i := 1) (by decide +kernel))), ⟨by decide +kernel, by decide +kernel⟩, by decide +kernel, by decide⟩
abbrev mX7_music : za_M := (yX7_music, cX7_music, 3, (some .int), [], 8)
theorem mkX7_music : za_mk mX7_music 2 := ⟨(tm_2 (List.mem_of_getElem? (i := 226) (by decide +kernel))), (tm_1 (List.mem_of_getElem? (i := 1) (by decide +kernel))), ⟨by decide +kernel, by decide +kernel⟩, by decide +kernel, by decide⟩
abbrev mX7_slot : za_M := (yX7_slot, cX7_slot, 2, (some .int), [], 8)
theorem mkX7_slot : za_mk mX7_slot 1 := ⟨(tm_2 (List.mem_of_getElem? (i := 235) (by decide +kernel))), (tm_1 (List.mem_of_getElem? (i := 1) (by decide +kernel))), ⟨by decide +kernel, by decide +kernel⟩, by decide +kernel, by decide⟩
abbrev mX7_item : za_M := (yX7_item, cX7_item, 4, (some .int), [], 8)
theorem mkX7_item : za_mk mX7_item 2 := ⟨(tm_1 (List.mem_of_getElem? (i := 88) (by decide +kernel))), (tm_1 (List.mem_of_getElem? (i := 1) (by decide +kernel))), ⟨by decide +kernel, by decide +kernel⟩, by decide +kernel, by decide⟩
abbrev mX7_cut : za_M := (yX7_cut, cX7_cut, 6, (some .int), [], 8)
theorem mkX7_cut : za_mk mX7_cut 2 := ⟨(tm_3 (List.mem_of_getElem? (i := 14) (by decide +kernel))), (tm_1 (List.mem_of_getElem? (i := 1) (by decide +kernel))), ⟨by decide +kernel, by decide +kernel⟩, by decide +kernel, by decide⟩
abbrev mX7_withdraw : za_M := (yX7_withdraw, cX7_withdraw, 3, none, [], 8)
theorem mkX7_withdraw : za_mk mX7_withdraw 1 := ⟨(tm_2 (List.mem_of_getElem? (i := 89) (by decide +kernel))), (tm_1 (List.mem_of_getElem? (i := 1) (by decide +kernel))), ⟨by decide +kernel, by decide +kernel⟩, by decide +kernel, by decide⟩
abbrev mX7_songOut : za_M := (yX7_songOut, cX7_songOut, 6, (some .int), [], 8)
theorem mkX7_songOut : za_mk mX7_songOut 1 := ⟨(tm_3 (List.mem_of_getElem? (i := 22) (by decide +kernel))), (tm_1 (List.mem_of_getElem? (i := 1) (by decide +kernel))), ⟨by decide +kernel, by decide +kernel⟩, by decide +kernel, by decide⟩
abbrev mX7_pass : za_M := (yX7_pass, cX7_pass, 3, (some .int), [], 8)
theorem mkX7_pass : za_mk mX7_pass 1 := ⟨(tm_2 (List.mem_of_getElem? (i := 99) (by decide +kernel))), (tm_1 (List.mem_of_getElem? (i := 1) (by decide +kernel))), ⟨by decide +kernel, by decide +kernel⟩, by decide +kernel, by decide⟩
abbrev mX7_app : za_M := (yX7_app, cX7_app, 2, (some .int), [], 7)
theorem mkX7_app : za_mk mX7_app 1 := ⟨(tm_2 (List.mem_of_getElem? (i := 109) (by decide +kernel))), (tm_1 (List.mem_of_getElem? (i := 1) (by decide +kernel))), ⟨by decide +kernel, by decide +kernel⟩, by decide +kernel, by decide⟩
abbrev mX7_poll : za_M := (yX7_poll, cX7_poll, 6, (some .int), [], 7)
theorem mkX7_poll : za_mk mX7_poll 1 := ⟨(tm_2 (List.mem_of_getElem? (i := 135) (by decide +kernel))), (tm_1 (List.mem_of_getElem? (i := 1) (by decide +kernel))), ⟨by decide +kernel, by decide +kernel⟩, by decide +kernel, by decide⟩
abbrev mX7_hour : za_M := (yX7_hour, cX7_hour, 1, (some .int), [], 0)
theorem mkX7_hour : za_mk mX7_hour 0 := ⟨(tm_2 (List.mem_of_getElem? (i := 152) (by decide +kernel))), (tm_1 (List.mem_of_getElem? (i := 1) (by decide +kernel))), ⟨by decide +kernel, by decide +kernel⟩, by decide +kernel, by decide⟩
abbrev mX7_ofItem : za_M := (yX7_ofItem, cX7_ofItem, 4, (some .int), [], 7)
theorem mkX7_ofItem : za_mk mX7_ofItem 2 := ⟨(tm_2 (List.mem_of_getElem? (i := 156) (by decide +kernel))), (tm_1 (List.mem_of_getElem? (i := 1) (by decide +kernel))), ⟨by decide +kernel, by decide +kernel⟩, by decide +kernel, by decide⟩
abbrev mX7_ofPart : za_M := (yX7_ofPart, cX7_ofPart, 5, (some .int), [], 7)
theorem mkX7_ofPart : za_mk mX7_ofPart 3 := ⟨(tm_3 (List.mem_of_getElem? (i := 3) (by decide +kernel))), (tm_1 (List.mem_of_getElem? (i := 1) (by decide +kernel))), ⟨by decide +kernel, by decide +kernel⟩, by decide +kernel, by decide⟩
abbrev mX7_told : za_M := (yX7_told, cX7_told, 4, (some .int), [], 7)
theorem mkX7_told : za_mk mX7_told 2 := ⟨(tm_2 (List.mem_of_getElem? (i := 170) (by decide +kernel))), (tm_1 (List.mem_of_getElem? (i := 1) (by decide +kernel))), ⟨by decide +kernel, by decide +kernel⟩, by decide +kernel, by decide⟩
abbrev mX7_isIn : za_M := (yX7_isIn, cX7_isIn, 3, (some .boolean), [], 0)
theorem mkX7_isIn : za_mk mX7_isIn 3 := ⟨(tm_1 (List.mem_of_getElem? (i := 162) (by decide +kernel))), (tm_1 (List.mem_of_getElem? (i := 1) (by decide +kernel))), ⟨by decide +kernel, by decide +kernel⟩, by decide +kernel, by decide⟩
abbrev mX7_hasBit : za_M := (yX7_hasBit, cX7_hasBit, 2, (some .boolean), [], 0)
theorem mkX7_hasBit : za_mk mX7_hasBit 2 := ⟨(tm_1 (List.mem_of_getElem? (i := 208) (by decide +kernel))), (tm_1 (List.mem_of_getElem? (i := 1) (by decide +kernel))), ⟨by decide +kernel, by decide +kernel⟩, by decide +kernel, by decide⟩
abbrev mX7_withBit : za_M := (yX7_withBit, cX7_withBit, 2, (some .int), [], 0)
theorem mkX7_withBit : za_mk mX7_withBit 2 := ⟨(tm_2 (List.mem_of_getElem? (i := 148) (by decide +kernel))), (tm_1 (List.mem_of_getElem? (i := 1) (by decide +kernel))), ⟨by decide +kernel, by decide +kernel⟩, by decide +kernel, by decide⟩
abbrev mX7_needShow : za_M := (yX7_needShow, cX7_needShow, 1, none, [], 6)
theorem mkX7_needShow : za_mk mX7_needShow 1 := ⟨(tm_1 (List.mem_of_getElem? (i := 91) (by decide +kernel))), (tm_1 (List.mem_of_getElem? (i := 1) (by decide +kernel))), ⟨by decide +kernel, by decide +kernel⟩, by decide +kernel, by decide⟩
abbrev mX7_needSong : za_M := (yX7_needSong, cX7_needSong, 1, none, [], 6)
theorem mkX7_needSong : za_mk mX7_needSong 1 := ⟨(tm_2 (List.mem_of_getElem? (i := 229) (by decide +kernel))), (tm_1 (List.mem_of_getElem? (i := 1) (by decide +kernel))), ⟨by decide +kernel, by decide +kernel⟩, by decide +kernel, by decide⟩
abbrev mX7_itemAt : za_M := (yX7_itemAt, cX7_itemAt, 2, (some (.object "FeedTower$Item")), [], 6)
theorem mkX7_itemAt : za_mk mX7_itemAt 1 := ⟨(tm_2 (List.mem_of_getElem? (i := 93) (by decide +kernel))), (tm_1 (List.mem_of_getElem? (i := 1) (by decide +kernel))), ⟨by decide +kernel, by decide +kernel⟩, by decide +kernel, by decide⟩
abbrev mX7_appAt : za_M := (yX7_appAt, cX7_appAt, 2, (some (.object "FeedTower$App")), [], 6)
theorem mkX7_appAt : za_mk mX7_appAt 1 := ⟨(tm_2 (List.mem_of_getElem? (i := 139) (by decide +kernel))), (tm_1 (List.mem_of_getElem? (i := 1) (by decide +kernel))), ⟨by decide +kernel, by decide +kernel⟩, by decide +kernel, by decide⟩
abbrev mX7_addToDraft : za_M := (yX7_addToDraft, cX7_addToDraft, 2, (some .int), [], 7)
theorem mkX7_addToDraft : za_mk mX7_addToDraft 1 := ⟨(tm_2 (List.mem_of_getElem? (i := 221) (by decide +kernel))), (tm_1 (List.mem_of_getElem? (i := 1) (by decide +kernel))), ⟨by decide +kernel, by decide +kernel⟩, by decide +kernel, by decide⟩
abbrev mX7_isOut : za_M := (yX7_isOut, cX7_isOut, 2, (some .boolean), [], 1)
theorem mkX7_isOut : za_mk mX7_isOut 1 := ⟨(tm_1 (List.mem_of_getElem? (i := 205) (by decide +kernel))), (tm_1 (List.mem_of_getElem? (i := 1) (by decide +kernel))), ⟨by decide +kernel, by decide +kernel⟩, by decide +kernel, by decide⟩
abbrev mX7_isDraftOfUse : za_M := (yX7_isDraftOfUse, cX7_isDraftOfUse, 2, (some .boolean), [], 3)
theorem mkX7_isDraftOfUse : za_mk mX7_isDraftOfUse 0 := ⟨(tm_1 (List.mem_of_getElem? (i := 182) (by decide +kernel))), (tm_1 (List.mem_of_getElem? (i := 1) (by decide +kernel))), ⟨by decide +kernel, by decide +kernel⟩, by decide +kernel, by decide⟩
abbrev mX7_cutWhatIsOut : za_M := (yX7_cutWhatIsOut, cX7_cutWhatIsOut, 5, (some .int), [], 4)
theorem mkX7_cutWhatIsOut : za_mk mX7_cutWhatIsOut 1 := ⟨(tm_2 (List.mem_of_getElem? (i := 70) (by decide +kernel))), (tm_1 (List.mem_of_getElem? (i := 1) (by decide +kernel))), ⟨by decide +kernel, by decide +kernel⟩, by decide +kernel, by decide⟩
abbrev mX7_isReleased : za_M := (yX7_isReleased, cX7_isReleased, 2, (some .boolean), [], 0)
theorem mkX7_isReleased : za_mk mX7_isReleased 1 := ⟨(tm_2 (List.mem_of_getElem? (i := 85) (by decide +kernel))), (tm_1 (List.mem_of_getElem? (i := 1) (by decide +kernel))), ⟨by decide +kernel, by decide +kernel⟩, by decide +kernel, by decide⟩
abbrev mX7_noteChange : za_M := (yX7_noteChange, cX7_noteChange, 2, none, [], 7)
theorem mkX7_noteChange : za_mk mX7_noteChange 1 := ⟨(tm_2 (List.mem_of_getElem? (i := 81) (by decide +kernel))), (tm_1 (List.mem_of_getElem? (i := 1) (by decide +kernel))), ⟨by decide +kernel, by decide +kernel⟩, by decide +kernel, by decide⟩
abbrev mX7_releaseItemsOfThisHour : za_M := (yX7_releaseItemsOfThisHour, cX7_releaseItemsOfThisHour, 3, none, [], 7)
theorem mkX7_releaseItemsOfThisHour : za_mk mX7_releaseItemsOfThisHour 0 := ⟨(tm_2 (List.mem_of_getElem? (i := 105) (by decide +kernel))), (tm_1 (List.mem_of_getElem? (i := 1) (by decide +kernel))), ⟨by decide +kernel, by decide +kernel⟩, by decide +kernel, by decide⟩
abbrev mX7_downloadsOf : za_M := (yX7_downloadsOf, cX7_downloadsOf, 4, (some .int), [], 3)
theorem mkX7_downloadsOf : za_mk mX7_downloadsOf 1 := ⟨(tm_2 (List.mem_of_getElem? (i := 164) (by decide +kernel))), (tm_1 (List.mem_of_getElem? (i := 1) (by decide +kernel))), ⟨by decide +kernel, by decide +kernel⟩, by decide +kernel, by decide⟩
abbrev mX0_init : za_M := (yX0_init, cX0_init, 2, none, [], 4)
theorem mkX0_init : za_mk mX0_init 1 := ⟨(tm_2 (List.mem_of_getElem? (i := 115) (by decide +kernel))), (tm_1 (List.mem_of_getElem? (i := 10) (by decide +kernel))), ⟨by decide +kernel, by decide +kernel⟩, by decide +kernel, by decide⟩
abbrev mX3_init : za_M := (yX3_init, cX3_init, 5, none, [], 1)
theorem mkX3_init : za_mk mX3_init 4 := ⟨(tm_1 (List.mem_of_getElem? (i := 229) (by decide +kernel))), (tm_1 (List.mem_of_getElem? (i := 19) (by decide +kernel))), ⟨by decide +kernel, by decide +kernel⟩, by decide +kernel, by decide⟩
abbrev mX3_partAt : za_M := (yX3_partAt, cX3_partAt, 2, (some (.object "FeedTower$Part")), [], 6)
theorem mkX3_partAt : za_mk mX3_partAt 1 := ⟨(tm_3 (List.mem_of_getElem? (i := 7) (by decide +kernel))), (tm_1 (List.mem_of_getElem? (i := 19) (by decide +kernel))), ⟨by decide +kernel, by decide +kernel⟩, by decide +kernel, by decide⟩
abbrev mX3_uncutParts : za_M := (yX3_uncutParts, cX3_uncutParts, 3, (some .int), [], 3)
theorem mkX3_uncutParts : za_mk mX3_uncutParts 0 := ⟨(tm_2 (List.mem_of_getElem? (i := 74) (by decide +kernel))), (tm_1 (List.mem_of_getElem? (i := 19) (by decide +kernel))), ⟨by decide +kernel, by decide +kernel⟩, by decide +kernel, by decide⟩
abbrev mX3_uncutSeconds : za_M := (yX3_uncutSeconds, cX3_uncutSeconds, 4, (some .int), [], 3)
theorem mkX3_uncutSeconds : za_mk mX3_uncutSeconds 0 := ⟨(tm_2 (List.mem_of_getElem? (i := 160) (by decide +kernel))), (tm_1 (List.mem_of_getElem? (i := 19) (by decide +kernel))), ⟨by decide +kernel, by decide +kernel⟩, by decide +kernel, by decide⟩
abbrev mX4_init : za_M := (yX4_init, cX4_init, 4, none, [], 1)
theorem mkX4_init : za_mk mX4_init 3 := ⟨(tm_2 (List.mem_of_getElem? (i := 194) (by decide +kernel))), (tm_1 (List.mem_of_getElem? (i := 18) (by decide +kernel))), ⟨by decide +kernel, by decide +kernel⟩, by decide +kernel, by decide⟩
abbrev mJ9_max_7cf53 : za_M := (yJ9_max_7cf53, cJ9_max_7cf53, 2, (some .int), [], 0)
theorem mkJ9_max_7cf53 : za_mk mJ9_max_7cf53 2 := ⟨(tm_2 (List.mem_of_getElem? (i := 33) (by decide +kernel))), (tm_1 (List.mem_of_getElem? (i := 12) (by decide +kernel))), ⟨by decide +kernel, by decide +kernel⟩, by decide +kernel, by decide⟩
abbrev mJ9_min_7cf53 : za_M := (yJ9_min_7cf53, cJ9_min_7cf53, 2, (some .int), [], 0)
theorem mkJ9_min_7cf53 : za_mk mJ9_min_7cf53 2 := ⟨(tm_2 (List.mem_of_getElem? (i := 61) (by decide +kernel))), (tm_1 (List.mem_of_getElem? (i := 12) (by decide +kernel))), ⟨by decide +kernel, by decide +kernel⟩, by decide +kernel, by decide⟩
abbrev mJxa1e45_init_da8c8 : za_M := (yJxa1e45_init_da8c8, cJxa1e45_init_da8c8, 1, none, [], 1)
theorem mkJxa1e45_init_da8c8 : za_mk mJxa1e45_init_da8c8 0 := ⟨(tm_1 (List.mem_of_getElem? (i := 38) (by decide +kernel))), (tm_1 (List.mem_of_getElem? (i := 2) (by decide +kernel))), ⟨by decide +kernel, by decide +kernel⟩, by decide +kernel, by decide⟩
abbrev mJxc12de_init_da8c8 : za_M := (yJxc12de_init_da8c8, cJxc12de_init_da8c8, 1, none, [], 2)
theorem mkJxc12de_init_da8c8 : za_mk mJxc12de_init_da8c8 0 := ⟨(tm_1 (List.mem_of_getElem? (i := 35) (by decide +kernel))), (tm_1 (List.mem_of_getElem? (i := 3) (by decide +kernel))), ⟨by decide +kernel, by decide +kernel⟩, by decide +kernel, by decide⟩
abbrev mJx4a65c_init_da8c8 : za_M := (yJx4a65c_init_da8c8, cJx4a65c_init_da8c8, 1, none, [], 3)
theorem mkJx4a65c_init_da8c8 : za_mk mJx4a65c_init_da8c8 0 := ⟨(tm_1 (List.mem_of_getElem? (i := 32) (by decide +kernel))), (tm_1 (List.mem_of_getElem? (i := 4) (by decide +kernel))), ⟨by decide +kernel, by decide +kernel⟩, by decide +kernel, by decide⟩
abbrev mJx4a65c_grow_92f84 : za_M := (yJx4a65c_grow_92f84, cJx4a65c_grow_92f84, 4, (some (.array (.object "java/lang/Object"))), [], 3)
theorem mkJx4a65c_grow_92f84 : za_mk mJx4a65c_grow_92f84 1 := ⟨(tm_2 (List.mem_of_getElem? (i := 27) (by decide +kernel))), (tm_1 (List.mem_of_getElem? (i := 4) (by decide +kernel))), ⟨by decide +kernel, by decide +kernel⟩, by decide +kernel, by decide⟩
abbrev mJx4a65c_grow_d5877 : za_M := (yJx4a65c_grow_d5877, cJx4a65c_grow_d5877, 1, (some (.array (.object "java/lang/Object"))), [], 4)
theorem mkJx4a65c_grow_d5877 : za_mk mJx4a65c_grow_d5877 0 := ⟨(tm_2 (List.mem_of_getElem? (i := 23) (by decide +kernel))), (tm_1 (List.mem_of_getElem? (i := 4) (by decide +kernel))), ⟨by decide +kernel, by decide +kernel⟩, by decide +kernel, by decide⟩
abbrev mJx4a65c_size_8abf5 : za_M := (yJx4a65c_size_8abf5, cJx4a65c_size_8abf5, 1, (some .int), [], 0)
theorem mkJx4a65c_size_8abf5 : za_mk mJx4a65c_size_8abf5 0 := ⟨(tm_1 (List.mem_of_getElem? (i := 186) (by decide +kernel))), (tm_1 (List.mem_of_getElem? (i := 4) (by decide +kernel))), ⟨by decide +kernel, by decide +kernel⟩, by decide +kernel, by decide⟩
abbrev mJx4a65c_elementData_915e3 : za_M := (yJx4a65c_elementData_915e3, cJx4a65c_elementData_915e3, 2, (some (.object "java/lang/Object")), [], 0)
theorem mkJx4a65c_elementData_915e3 : za_mk mJx4a65c_elementData_915e3 1 := ⟨(tm_1 (List.mem_of_getElem? (i := 200) (by decide +kernel))), (tm_1 (List.mem_of_getElem? (i := 4) (by decide +kernel))), ⟨by decide +kernel, by decide +kernel⟩, by decide +kernel, by decide⟩
abbrev mJx4a65c_get_915e3 : za_M := (yJx4a65c_get_915e3, cJx4a65c_get_915e3, 2, (some (.object "java/lang/Object")), [], 2)
theorem mkJx4a65c_get_915e3 : za_mk mJx4a65c_get_915e3 1 := ⟨(tm_1 (List.mem_of_getElem? (i := 190) (by decide +kernel))), (tm_1 (List.mem_of_getElem? (i := 4) (by decide +kernel))), ⟨by decide +kernel, by decide +kernel⟩, by decide +kernel, by decide⟩
abbrev mJx4a65c_add_72be8 : za_M := (yJx4a65c_add_72be8, cJx4a65c_add_72be8, 4, none, [], 5)
theorem mkJx4a65c_add_72be8 : za_mk mJx4a65c_add_72be8 3 := ⟨(tm_2 (List.mem_of_getElem? (i := 19) (by decide +kernel))), (tm_1 (List.mem_of_getElem? (i := 4) (by decide +kernel))), ⟨by decide +kernel, by decide +kernel⟩, by decide +kernel, by decide⟩
abbrev mJx4a65c_add_9ea2d : za_M := (yJx4a65c_add_9ea2d, cJx4a65c_add_9ea2d, 2, (some .boolean), [], 6)
theorem mkJx4a65c_add_9ea2d : za_mk mJx4a65c_add_9ea2d 1 := ⟨(tm_2 (List.mem_of_getElem? (i := 15) (by decide +kernel))), (tm_1 (List.mem_of_getElem? (i := 4) (by decide +kernel))), ⟨by decide +kernel, by decide +kernel⟩, by decide +kernel, by decide⟩
abbrev mJx4a65c_clear_da8c8 : za_M := (yJx4a65c_clear_da8c8, cJx4a65c_clear_da8c8, 4, none, [], 0)
theorem mkJx4a65c_clear_da8c8 : za_mk mJx4a65c_clear_da8c8 0 := ⟨(tm_2 (List.mem_of_getElem? (i := 144) (by decide +kernel))), (tm_1 (List.mem_of_getElem? (i := 4) (by decide +kernel))), ⟨by decide +kernel, by decide +kernel⟩, by decide +kernel, by decide⟩
abbrev mJ7_copyOf_1904c : za_M := (yJ7_copyOf_1904c, cJ7_copyOf_1904c, 2, (some (.array (.object "java/lang/Object"))), [], 2)
theorem mkJ7_copyOf_1904c : za_mk mJ7_copyOf_1904c 2 := ⟨(tm_2 (List.mem_of_getElem? (i := 40) (by decide +kernel))), (tm_1 (List.mem_of_getElem? (i := 13) (by decide +kernel))), ⟨by decide +kernel, by decide +kernel⟩, by decide +kernel, by decide⟩
abbrev mJ7_copyOf_6403c : za_M := (yJ7_copyOf_6403c, cJ7_copyOf_6403c, 4, (some (.array (.object "java/lang/Object"))), [], 1)
theorem mkJ7_copyOf_6403c : za_mk mJ7_copyOf_6403c 3 := ⟨(tm_2 (List.mem_of_getElem? (i := 55) (by decide +kernel))), (tm_1 (List.mem_of_getElem? (i := 13) (by decide +kernel))), ⟨by decide +kernel, by decide +kernel⟩, by decide +kernel, by decide⟩
abbrev mJ15_checkIndex_7cf53 : za_M := (yJ15_checkIndex_7cf53, cJ15_checkIndex_7cf53, 2, (some .int), [], 1)
theorem mkJ15_checkIndex_7cf53 : za_mk mJ15_checkIndex_7cf53 2 := ⟨(tm_1 (List.mem_of_getElem? (i := 193) (by decide +kernel))), (tm_1 (List.mem_of_getElem? (i := 15) (by decide +kernel))), ⟨by decide +kernel, by decide +kernel⟩, by decide +kernel, by decide⟩
abbrev mJ8_newLength_cabcc : za_M := (yJ8_newLength_cabcc, cJ8_newLength_cabcc, 4, (some .int), [], 1)
theorem mkJ8_newLength_cabcc : za_mk mJ8_newLength_cabcc 3 := ⟨(tm_2 (List.mem_of_getElem? (i := 30) (by decide +kernel))), (tm_1 (List.mem_of_getElem? (i := 11) (by decide +kernel))), ⟨by decide +kernel, by decide +kernel⟩, by decide +kernel, by decide⟩
abbrev mJ8_hugeLength_7cf53 : za_M := (yJ8_hugeLength_7cf53, cJ8_hugeLength_7cf53, 3, (some .int), [], 0)
theorem mkJ8_hugeLength_7cf53 : za_mk mJ8_hugeLength_7cf53 2 := ⟨(tm_2 (List.mem_of_getElem? (i := 37) (by decide +kernel))), (tm_1 (List.mem_of_getElem? (i := 11) (by decide +kernel))), ⟨by decide +kernel, by decide +kernel⟩, by decide +kernel, by decide⟩
abbrev mJ3_checkIndex_8e157 : za_M := (yJ3_checkIndex_8e157, cJ3_checkIndex_8e157, 3, (some .int), [], 0)
theorem mkJ3_checkIndex_8e157 : za_mk mJ3_checkIndex_8e157 3 := ⟨(tm_1 (List.mem_of_getElem? (i := 196) (by decide +kernel))), (tm_1 (List.mem_of_getElem? (i := 16) (by decide +kernel))), ⟨by decide +kernel, by decide +kernel⟩, by decide +kernel, by decide⟩
abbrev mL_told : za_M := (yL_told, cL_told, 2, (some .int), [], 0)
theorem mkL_told : za_mk mL_told 2 := ⟨(tm_2 (List.mem_of_getElem? (i := 174) (by decide +kernel))), (tm_1 (List.mem_of_getElem? (i := 0) (by decide +kernel))), ⟨by decide +kernel, by decide +kernel⟩, by decide +kernel, by decide⟩
abbrev mL_note : za_M := (yL_note, cL_note, 7, none, [], 8)
theorem mkL_note : za_mk mL_note 4 := ⟨(tm_2 (List.mem_of_getElem? (i := 179) (by decide +kernel))), (tm_1 (List.mem_of_getElem? (i := 0) (by decide +kernel))), ⟨by decide +kernel, by decide +kernel⟩, by decide +kernel, by decide⟩
abbrev mL_isPolled : za_M := (yL_isPolled, cL_isPolled, 6, (some .boolean), [], 8)
theorem mkL_isPolled : za_mk mL_isPolled 4 := ⟨(tm_2 (List.mem_of_getElem? (i := 182) (by decide +kernel))), (tm_1 (List.mem_of_getElem? (i := 0) (by decide +kernel))), ⟨by decide +kernel, by decide +kernel⟩, by decide +kernel, by decide⟩
abbrev mL_draft : za_M := (yL_draft, cL_draft, 6, none, [], 9)
theorem mkL_draft : za_mk mL_draft 3 := ⟨(tm_2 (List.mem_of_getElem? (i := 185) (by decide +kernel))), (tm_1 (List.mem_of_getElem? (i := 0) (by decide +kernel))), ⟨by decide +kernel, by decide +kernel⟩, by decide +kernel, by decide⟩
abbrev mL_cuts : za_M := (yL_cuts, cL_cuts, 8, (some .boolean), [], 9)
theorem mkL_cuts : za_mk mL_cuts 5 := ⟨(tm_2 (List.mem_of_getElem? (i := 239) (by decide +kernel))), (tm_1 (List.mem_of_getElem? (i := 0) (by decide +kernel))), ⟨by decide +kernel, by decide +kernel⟩, by decide +kernel, by decide⟩
abbrev mL_goesOut : za_M := (yL_goesOut, cL_goesOut, 11, (some .boolean), [], 9)
theorem mkL_goesOut : za_mk mL_goesOut 5 := ⟨(tm_3 (List.mem_of_getElem? (i := 18) (by decide +kernel))), (tm_1 (List.mem_of_getElem? (i := 0) (by decide +kernel))), ⟨by decide +kernel, by decide +kernel⟩, by decide +kernel, by decide⟩
/-! links of each class -/
