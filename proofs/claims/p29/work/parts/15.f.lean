theorem lmL_9 : za_okm RL 9 (0, 2, 4, 7, mX7_ofItem) := ⟨rfl, ⟨mkX7_ofItem, rfl, (tm_2 (List.mem_of_getElem? (i := 153) (by decide +kernel))), (tm_2 (List.mem_of_getElem? (i := 154) (by decide +kernel))), (tm_2 (List.mem_of_getElem? (i := 155) (by decide +kernel)))⟩, _, rfl, rfl⟩
theorem lnL_10 : za_nl RL 10 4 [.null, .null, .null, .null, .null, .null, .int (nI 0), .int (nI 0), .int (nI 0), .int (nI 0)] := ⟨_, _, _, tyX7, rfl, (tm_1 (List.mem_of_getElem? (i := 20) (by decide +kernel))), (tm_1 (List.mem_of_getElem? (i := 21) (by decide +kernel))), (tm_1 (List.mem_of_getElem? (i := 1) (by decide +kernel))), uwX7, tyX7_ok, rfl, by decide +kernel⟩
theorem lmL_15 : za_okm RL 15 (0, 1, 4, 7, mX7_poll) := ⟨rfl, ⟨mkX7_poll, rfl, (tm_2 (List.mem_of_getElem? (i := 132) (by decide +kernel))), (tm_2 (List.mem_of_getElem? (i := 133) (by decide +kernel))), (tm_2 (List.mem_of_getElem? (i := 134) (by decide +kernel)))⟩, _, rfl, rfl⟩
theorem lmL_19 : za_okm RL 19 (0, 2, 4, 7, mX7_told) := ⟨rfl, ⟨mkX7_told, rfl, (tm_2 (List.mem_of_getElem? (i := 167) (by decide +kernel))), (tm_2 (List.mem_of_getElem? (i := 168) (by decide +kernel))), (tm_2 (List.mem_of_getElem? (i := 169) (by decide +kernel)))⟩, _, rfl, rfl⟩
theorem lmL_22 : za_okm RL 22 (0, 1, 4, 8, mX7_talk) := ⟨rfl, ⟨mkX7_talk, rfl, (tm_2 (List.mem_of_getElem? (i := 186) (by decide +kernel))), (tm_2 (List.mem_of_getElem? (i := 187) (by decide +kernel))), (tm_2 (List.mem_of_getElem? (i := 188) (by decide +kernel)))⟩, _, rfl, rfl⟩
theorem lmL_25 : za_okm RL 25 (0, 2, 4, 8, mX7_music) := ⟨rfl, ⟨mkX7_music, rfl, (tm_2 (List.mem_of_getElem? (i := 223) (by decide +kernel))), (tm_2 (List.mem_of_getElem? (i := 224) (by decide +kernel))), (tm_2 (List.mem_of_getElem? (i := 225) (by decide +kernel)))⟩, _, rfl, rfl⟩
theorem lmL_28 : za_okm RL 28 (0, 1, 4, 8, mX7_slot) := ⟨rfl, ⟨mkX7_slot, rfl, (tm_2 (List.mem_of_getElem? (i := 232) (by decide +kernel))), (tm_2 (List.mem_of_getElem? (i := 233) (by decide +kernel))), (tm_2 (List.mem_of_getElem? (i := 234) (by decide +kernel)))⟩, _, rfl, rfl⟩
theorem lmL_31 : za_okm RL 31 (0, 3, 4, 7, mX7_ofPart) := ⟨rfl, ⟨mkX7_ofPart, rfl, (tm_3 (List.mem_of_getElem? (i := 0) (by decide +kernel))), (tm_3 (List.mem_of_getElem? (i := 1) (by decide +kernel))), (tm_3 (List.mem_of_getElem? (i := 2) (by decide +kernel)))⟩, _, rfl, rfl⟩
theorem lmL_35 : za_okm RL 35 (0, 2, 4, 8, mX7_cut) := ⟨rfl, ⟨mkX7_cut, rfl, (tm_3 (List.mem_of_getElem? (i := 11) (by decide +kernel))), (tm_3 (List.mem_of_getElem? (i := 12) (by decide +kernel))), (tm_3 (List.mem_of_getElem? (i := 13) (by decide +kernel)))⟩, _, rfl, rfl⟩
theorem lmL_38 : za_okm RL 38 (1, 4, 0, 8, mL_note) := ⟨rfl, mkL_note, (tm_2 (List.mem_of_getElem? (i := 177) (by decide +kernel))), (tm_2 (List.mem_of_getElem? (i := 178) (by decide +kernel)))⟩
theorem lmL_44 : za_okm RL 44 (0, 1, 4, 8, mX7_songOut) := ⟨rfl, ⟨mkX7_songOut, rfl, (tm_3 (List.mem_of_getElem? (i := 19) (by decide +kernel))), (tm_3 (List.mem_of_getElem? (i := 20) (by decide +kernel))), (tm_3 (List.mem_of_getElem? (i := 21) (by decide +kernel)))⟩, _, rfl, rfl⟩
theorem lmL_47 : za_okm RL 47 (2, 0, 0, 4, mX7_init) := ⟨rfl, mkX7_init, rfl, rfl, rfl, (tm_1 (List.mem_of_getElem? (i := 22) (by decide +kernel))), (tm_1 (List.mem_of_getElem? (i := 23) (by decide +kernel)))⟩
theorem lmL_48 : za_okm RL 48 (0, 1, 4, 7, mX7_app) := ⟨rfl, ⟨mkX7_app, rfl, (tm_2 (List.mem_of_getElem? (i := 106) (by decide +kernel))), (tm_2 (List.mem_of_getElem? (i := 107) (by decide +kernel))), (tm_2 (List.mem_of_getElem? (i := 108) (by decide +kernel)))⟩, _, rfl, rfl⟩
theorem lmL_51 : za_okm RL 51 (1, 2, 0, 0, mL_told) := ⟨rfl, mkL_told, (tm_2 (List.mem_of_getElem? (i := 172) (by decide +kernel))), (tm_2 (List.mem_of_getElem? (i := 173) (by decide +kernel)))⟩
theorem lmL_54 : za_okm RL 54 (1, 3, 0, 9, mL_draft) := ⟨rfl, mkL_draft, (tm_2 (List.mem_of_getElem? (i := 183) (by decide +kernel))), (tm_2 (List.mem_of_getElem? (i := 184) (by decide +kernel)))⟩
theorem lmL_58 : za_okm RL 58 (0, 0, 4, 0, mX7_hour) := ⟨rfl, ⟨mkX7_hour, rfl, (tm_2 (List.mem_of_getElem? (i := 149) (by decide +kernel))), (tm_2 (List.mem_of_getElem? (i := 150) (by decide +kernel))), (tm_2 (List.mem_of_getElem? (i := 151) (by decide +kernel)))⟩, _, rfl, rfl⟩
theorem lmL_63 : za_okm RL 63 (0, 2, 4, 8, mX7_item) := ⟨rfl, ⟨mkX7_item, rfl, (tm_1 (List.mem_of_getElem? (i := 85) (by decide +kernel))), (tm_1 (List.mem_of_getElem? (i := 86) (by decide +kernel))), (tm_1 (List.mem_of_getElem? (i := 87) (by decide +kernel)))⟩, _, rfl, rfl⟩
theorem lmL_66 : za_okm RL 66 (0, 1, 4, 8, mX7_pass) := ⟨rfl, ⟨mkX7_pass, rfl, (tm_2 (List.mem_of_getElem? (i := 96) (by decide +kernel))), (tm_2 (List.mem_of_getElem? (i := 97) (by decide +kernel))), (tm_2 (List.mem_of_getElem? (i := 98) (by decide +kernel)))⟩, _, rfl, rfl⟩
theorem lmL_69 : za_okm RL 69 (0, 1, 4, 8, mX7_withdraw) := ⟨rfl, ⟨mkX7_withdraw, rfl, (tm_2 (List.mem_of_getElem? (i := 86) (by decide +kernel))), (tm_2 (List.mem_of_getElem? (i := 87) (by decide +kernel))), (tm_2 (List.mem_of_getElem? (i := 88) (by decide +kernel)))⟩, _, rfl, rfl⟩
theorem lmL_73 : za_okm RL 73 (1, 5, 0, 9, mL_goesOut) := ⟨rfl, mkL_goesOut, (tm_3 (List.mem_of_getElem? (i := 16) (by decide +kernel))), (tm_3 (List.mem_of_getElem? (i := 17) (by decide +kernel)))⟩
theorem lmL_77 : za_okm RL 77 (1, 5, 0, 9, mL_cuts) := ⟨rfl, mkL_cuts, (tm_2 (List.mem_of_getElem? (i := 237) (by decide +kernel))), (tm_2 (List.mem_of_getElem? (i := 238) (by decide +kernel)))⟩
theorem lmL_80 : za_okm RL 80 (1, 4, 0, 8, mL_isPolled) := ⟨rfl, mkL_isPolled, (tm_2 (List.mem_of_getElem? (i := 180) (by decide +kernel))), (tm_2 (List.mem_of_getElem? (i := 181) (by decide +kernel)))⟩
def flL : List (Nat × (Nat × Nat × FieldType × Nat)) := []
def mtL : List (Nat × (Nat × Nat × Nat × Nat × za_M)) := [(9, (0, 2, 4, 7, mX7_ofItem)), (15, (0, 1, 4, 7, mX7_poll)), (19, (0, 2, 4, 7, mX7_told)), (22, (0, 1, 4, 8, mX7_talk)), (25, (0, 2, 4, 8, mX7_music)), (28, (0, 1, 4, 8, mX7_slot)), (31, (0, 3, 4, 7, mX7_ofPart)), (35, (0, 2, 4, 8, mX7_cut)), (38, (1, 4, 0, 8, mL_note)), (44, (0, 1, 4, 8, mX7_songOut)), (47, (2, 0, 0, 4, mX7_init)), (48, (0, 1, 4, 7, mX7_app)), (51, (1, 2, 0, 0, mL_told)), (54, (1, 3, 0, 9, mL_draft)), (58, (0, 0, 4, 0, mX7_hour)), (63, (0, 2, 4, 8, mX7_item)), (66, (0, 1, 4, 8, mX7_pass)), (69, (0, 1, 4, 8, mX7_withdraw)), (73, (1, 5, 0, 9, mL_goesOut)), (77, (1, 5, 0, 9, mL_cuts)), (80, (1, 4, 0, 8, mL_isPolled))]
def nwL : List (Nat × (Nat × List Value)) := [(10, (4, [.null, .null, .null, .null, .null, .null, .int (nI 0), .int (nI 0), .int (nI 0), .int (nI 0)]))]
def thL : List (Nat × (Nat × Nat)) := []
def ckL : List (Nat × Nat) := []
def cnL : List (Nat × Int32) := [(7, 40009), (8, 2147483647), (62, 65536)]
def lkL : za_LK := (za_lu flL, za_lu mtL, za_lu nwL, za_lu thL, (fun i => ([] : List Nat).elem i), za_lu ckL, za_lu cnL)
theorem okL : za_lk RL lkL := ⟨za_lu_ok (l := flL) (Q := fun i q => za_fl RL i q.1 q.2.1 q.2.2.1 q.2.2.2) za_nil, za_lu_ok (l := mtL) (Q := za_okm RL) (za_cons lmL_9 (za_cons lmL_15 (za_cons lmL_19 (za_cons lmL_22 (za_cons lmL_25 (za_cons lmL_28 (za_cons lmL_31 (za_cons lmL_35 (za_cons lmL_38 (za_cons lmL_44 (za_cons lmL_47 (za_cons lmL_48 (za_cons lmL_51 (za_cons lmL_54 (za_cons lmL_58 (za_cons lmL_63 (za_cons lmL_66 (za_cons lmL_69 (za_cons lmL_73 (za_cons lmL_77 (za_cons lmL_80 za_nil))))))))))))))))))))), za_lu_ok (l := nwL) (Q := fun i q => za_nl RL i q.1 q.2) (za_cons lnL_10 za_nil), fun i q j h hj => za_lu_ok (l := thL) (Q := fun i q => ∀ j, ([] : List Nat).elem j = true → za_tl RL i j q.2 q.1) za_nil i q h j hj, za_lu_ok (l := ckL) (Q := fun i ci => ∃ r, vwCl[ci]? = some r ∧ Jvm.Cond.classLink RL i r.1 ∈ lw_tbl) za_nil, za_lu_ok (l := cnL) (Q := fun i v => Jvm.Cond.constant RL i v ∈ lw_tbl) (za_cons (tm_2 (List.mem_of_getElem? (i := 175) (by decide +kernel))) (za_cons (tm_2 (List.mem_of_getElem? (i := 176) (by decide +kernel))) (za_cons (tm_3 (List.mem_of_getElem? (i := 24) (by decide +kernel))) za_nil)))⟩
theorem uL_m9 : za_LK.mt lkL 9 = some (0, 2, 4, 7, mX7_ofItem) := rfl
theorem uL_m15 : za_LK.mt lkL 15 = some (0, 1, 4, 7, mX7_poll) := rfl
theorem uL_m19 : za_LK.mt lkL 19 = some (0, 2, 4, 7, mX7_told) := rfl
theorem uL_m22 : za_LK.mt lkL 22 = some (0, 1, 4, 8, mX7_talk) := rfl
theorem uL_m25 : za_LK.mt lkL 25 = some (0, 2, 4, 8, mX7_music) := rfl
theorem uL_m28 : za_LK.mt lkL 28 = some (0, 1, 4, 8, mX7_slot) := rfl
theorem uL_m31 : za_LK.mt lkL 31 = some (0, 3, 4, 7, mX7_ofPart) := rfl
theorem uL_m35 : za_LK.mt lkL 35 = some (0, 2, 4, 8, mX7_cut) := rfl
theorem uL_m38 : za_LK.mt lkL 38 = some (1, 4, 0, 8, mL_note) := rfl
theorem uL_m44 : za_LK.mt lkL 44 = some (0, 1, 4, 8, mX7_songOut) := rfl
theorem uL_m47 : za_LK.mt lkL 47 = some (2, 0, 0, 4, mX7_init) := rfl
theorem uL_m48 : za_LK.mt lkL 48 = some (0, 1, 4, 7, mX7_app) := rfl
theorem uL_m51 : za_LK.mt lkL 51 = some (1, 2, 0, 0, mL_told) := rfl
theorem uL_m54 : za_LK.mt lkL 54 = some (1, 3, 0, 9, mL_draft) := rfl
theorem uL_m58 : za_LK.mt lkL 58 = some (0, 0, 4, 0, mX7_hour) := rfl
theorem uL_m63 : za_LK.mt lkL 63 = some (0, 2, 4, 8, mX7_item) := rfl
theorem uL_m66 : za_LK.mt lkL 66 = some (0, 1, 4, 8, mX7_pass) := rfl
theorem uL_m69 : za_LK.mt lkL 69 = some (0, 1, 4, 8, mX7_withdraw) := rfl
theorem uL_m73 : za_LK.mt lkL 73 = some (1, 5, 0, 9, mL_goesOut) := rfl
theorem uL_m77 : za_LK.mt lkL 77 = some (1, 5, 0, 9, mL_cuts) := rfl
theorem uL_m80 : za_LK.mt lkL 80 = some (1, 4, 0, 8, mL_isPolled) := rfl
theorem uL_n10 : za_LK.nw lkL 10 = some (4, [.null, .null, .null, .null, .null, .null, .int (nI 0), .int (nI 0), .int (nI 0), .int (nI 0)]) := rfl
theorem uL_k7 : za_LK.cn lkL 7 = some 40009 := rfl
theorem uL_k8 : za_LK.cn lkL 8 = some 2147483647 := rfl
theorem uL_k62 : za_LK.cn lkL 62 = some 65536 := rfl
