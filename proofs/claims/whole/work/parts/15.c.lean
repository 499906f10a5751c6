theorem lmX0_1 : za_okm RX0 1 (4, 0, 0, 0, mX7_isIn) := ⟨rfl, (tm_2 (List.mem_of_getElem? (i := 234) (by decide +kernel))), (tm_1 (List.mem_of_getElem? (i := 31) (by decide +kernel))), (tm_1 (List.mem_of_getElem? (i := 32) (by decide +kernel)))⟩
theorem lnX0_7 : za_nl RX0 7 0 [.int (nI 0), .null, .int (nI 0)] := ⟨_, _, _, tyJx4a65c, rfl, (tm_2 (List.mem_of_getElem? (i := 235) (by decide +kernel))), (tm_1 (List.mem_of_getElem? (i := 34) (by decide +kernel))), (tm_1 (List.mem_of_getElem? (i := 4) (by decide +kernel))), uwJx4a65c, tyJx4a65c_ok, rfl, by decide +kernel⟩
theorem lmX0_9 : za_okm RX0 9 (2, 0, 0, 3, mJx4a65c_init_da8c8) := ⟨rfl, mkJx4a65c_init_da8c8, rfl, rfl, rfl, (tm_2 (List.mem_of_getElem? (i := 236) (by decide +kernel))), (tm_1 (List.mem_of_getElem? (i := 36) (by decide +kernel)))⟩
theorem lfX0_10 : za_fl RX0 10 1 1 (.object "java/util/ArrayList") 1 := ⟨_, _, _, "FeedTower$App", tyX0, rfl, by decide, (tm_2 (List.mem_of_getElem? (i := 239) (by decide +kernel))), Or.inl rfl, uwX0, tyX0_ok, nmX0, rfl, (fun h => by cases h), fun _ => ⟨rfl, rfl⟩⟩
theorem lfX0_16 : za_fl RX0 16 1 2 (.int) 0 := ⟨_, _, _, "FeedTower$App", tyX0, rfl, by decide, (tm_3 (List.mem_of_getElem? (i := 1) (by decide +kernel))), Or.inl rfl, uwX0, tyX0_ok, nmX0, rfl, fun _ => rfl, fun h => by cases h⟩
theorem lfX0_20 : za_fl RX0 20 1 0 (.int) 1 := ⟨_, _, _, "FeedTower$App", tyX0, rfl, by decide, (tm_2 (List.mem_of_getElem? (i := 237) (by decide +kernel))), Or.inl rfl, uwX0, tyX0_ok, nmX0, rfl, (fun h => by cases h), fun _ => ⟨rfl, rfl⟩⟩
def flX0 : List (Nat × (Nat × Nat × FieldType × Nat)) := [(10, (1, 1, .object "java/util/ArrayList", 1)), (16, (1, 2, .int, 0)), (20, (1, 0, .int, 1))]
def mtX0 : List (Nat × (Nat × Nat × Nat × Nat × za_M)) := [(1, (4, 0, 0, 0, mX7_isIn)), (9, (2, 0, 0, 3, mJx4a65c_init_da8c8))]
def nwX0 : List (Nat × (Nat × List Value)) := [(7, (0, [.int (nI 0), .null, .int (nI 0)]))]
def thX0 : List (Nat × (Nat × Nat)) := []
def ckX0 : List (Nat × Nat) := []
def lkX0 : za_LK := (za_lu flX0, za_lu mtX0, za_lu nwX0, za_lu thX0, (fun i => ([] : List Nat).elem i), za_lu ckX0)
theorem okX0 : za_lk RX0 lkX0 := ⟨za_lu_ok (l := flX0) (Q := fun i q => za_fl RX0 i q.1 q.2.1 q.2.2.1 q.2.2.2) (za_cons lfX0_10 (za_cons lfX0_16 (za_cons lfX0_20 za_nil))), za_lu_ok (l := mtX0) (Q := za_okm RX0) (za_cons lmX0_1 (za_cons lmX0_9 za_nil)), za_lu_ok (l := nwX0) (Q := fun i q => za_nl RX0 i q.1 q.2) (za_cons lnX0_7 za_nil), fun i q j h hj => za_lu_ok (l := thX0) (Q := fun i q => ∀ j, ([] : List Nat).elem j = true → za_tl RX0 i j q.2 q.1) za_nil i q h j hj, za_lu_ok (l := ckX0) (Q := fun i ci => ∃ r, vwCl[ci]? = some r ∧ Jvm.Cond.classLink RX0 i r.1 ∈ lw_tbl) za_nil⟩
theorem uX0_f10 : za_LK.fl lkX0 10 = some (1, 1, .object "java/util/ArrayList", 1) := rfl
theorem uX0_f16 : za_LK.fl lkX0 16 = some (1, 2, .int, 0) := rfl
theorem uX0_f20 : za_LK.fl lkX0 20 = some (1, 0, .int, 1) := rfl
theorem uX0_m1 : za_LK.mt lkX0 1 = some (4, 0, 0, 0, mX7_isIn) := rfl
theorem uX0_m9 : za_LK.mt lkX0 9 = some (2, 0, 0, 3, mJx4a65c_init_da8c8) := rfl
theorem uX0_n7 : za_LK.nw lkX0 7 = some (0, [.int (nI 0), .null, .int (nI 0)]) := rfl
theorem lmX1_3 : za_okm RX1 3 (4, 0, 0, 0, mX7_isIn) := ⟨rfl, (tm_3 (List.mem_of_getElem? (i := 43) (by decide +kernel))), (tm_1 (List.mem_of_getElem? (i := 31) (by decide +kernel))), (tm_1 (List.mem_of_getElem? (i := 32) (by decide +kernel)))⟩
theorem lfX1_9 : za_fl RX1 9 2 7 (.int) 0 := ⟨_, _, _, "FeedTower$Campaign", tyX1, rfl, by decide, (tm_3 (List.mem_of_getElem? (i := 55) (by decide +kernel))), Or.inl rfl, uwX1, tyX1_ok, nmX1, rfl, fun _ => rfl, fun h => by cases h⟩
theorem lfX1_15 : za_fl RX1 15 2 8 (.int) 0 := ⟨_, _, _, "FeedTower$Campaign", tyX1, rfl, by decide, (tm_3 (List.mem_of_getElem? (i := 57) (by decide +kernel))), Or.inl rfl, uwX1, tyX1_ok, nmX1, rfl, fun _ => rfl, fun h => by cases h⟩
theorem lfX1_18 : za_fl RX1 18 2 0 (.int) 1 := ⟨_, _, _, "FeedTower$Campaign", tyX1, rfl, by decide, (tm_3 (List.mem_of_getElem? (i := 44) (by decide +kernel))), Or.inl rfl, uwX1, tyX1_ok, nmX1, rfl, (fun h => by cases h), fun _ => ⟨rfl, rfl⟩⟩
theorem lfX1_21 : za_fl RX1 21 2 1 (.int) 1 := ⟨_, _, _, "FeedTower$Campaign", tyX1, rfl, by decide, (tm_3 (List.mem_of_getElem? (i := 46) (by decide +kernel))), Or.inl rfl, uwX1, tyX1_ok, nmX1, rfl, (fun h => by cases h), fun _ => ⟨rfl, rfl⟩⟩
theorem lfX1_24 : za_fl RX1 24 2 2 (.int) 1 := ⟨_, _, _, "FeedTower$Campaign", tyX1, rfl, by decide, (tm_3 (List.mem_of_getElem? (i := 48) (by decide +kernel))), Or.inl rfl, uwX1, tyX1_ok, nmX1, rfl, (fun h => by cases h), fun _ => ⟨rfl, rfl⟩⟩
theorem lfX1_27 : za_fl RX1 27 2 3 (.int) 1 := ⟨_, _, _, "FeedTower$Campaign", tyX1, rfl, by decide, (tm_3 (List.mem_of_getElem? (i := 50) (by decide +kernel))), Or.inl rfl, uwX1, tyX1_ok, nmX1, rfl, (fun h => by cases h), fun _ => ⟨rfl, rfl⟩⟩
theorem lfX1_30 : za_fl RX1 30 2 4 (.int) 1 := ⟨_, _, _, "FeedTower$Campaign", tyX1, rfl, by decide, (tm_3 (List.mem_of_getElem? (i := 51) (by decide +kernel))), Or.inl rfl, uwX1, tyX1_ok, nmX1, rfl, (fun h => by cases h), fun _ => ⟨rfl, rfl⟩⟩
theorem lfX1_33 : za_fl RX1 33 2 5 (.int) 1 := ⟨_, _, _, "FeedTower$Campaign", tyX1, rfl, by decide, (tm_3 (List.mem_of_getElem? (i := 52) (by decide +kernel))), Or.inl rfl, uwX1, tyX1_ok, nmX1, rfl, (fun h => by cases h), fun _ => ⟨rfl, rfl⟩⟩
theorem lfX1_36 : za_fl RX1 36 2 6 (.int) 1 := ⟨_, _, _, "FeedTower$Campaign", tyX1, rfl, by decide, (tm_3 (List.mem_of_getElem? (i := 53) (by decide +kernel))), Or.inl rfl, uwX1, tyX1_ok, nmX1, rfl, (fun h => by cases h), fun _ => ⟨rfl, rfl⟩⟩
def flX1 : List (Nat × (Nat × Nat × FieldType × Nat)) := [(9, (2, 7, .int, 0)), (15, (2, 8, .int, 0)), (18, (2, 0, .int, 1)), (21, (2, 1, .int, 1)), (24, (2, 2, .int, 1)), (27, (2, 3, .int, 1)), (30, (2, 4, .int, 1)), (33, (2, 5, .int, 1)), (36, (2, 6, .int, 1))]
def mtX1 : List (Nat × (Nat × Nat × Nat × Nat × za_M)) := [(3, (4, 0, 0, 0, mX7_isIn))]
def nwX1 : List (Nat × (Nat × List Value)) := []
def thX1 : List (Nat × (Nat × Nat)) := []
def ckX1 : List (Nat × Nat) := []
def lkX1 : za_LK := (za_lu flX1, za_lu mtX1, za_lu nwX1, za_lu thX1, (fun i => ([] : List Nat).elem i), za_lu ckX1)
theorem okX1 : za_lk RX1 lkX1 := ⟨za_lu_ok (l := flX1) (Q := fun i q => za_fl RX1 i q.1 q.2.1 q.2.2.1 q.2.2.2) (za_cons lfX1_9 (za_cons lfX1_15 (za_cons lfX1_18 (za_cons lfX1_21 (za_cons lfX1_24 (za_cons lfX1_27 (za_cons lfX1_30 (za_cons lfX1_33 (za_cons lfX1_36 za_nil))))))))), za_lu_ok (l := mtX1) (Q := za_okm RX1) (za_cons lmX1_3 za_nil), za_lu_ok (l := nwX1) (Q := fun i q => za_nl RX1 i q.1 q.2) za_nil, fun i q j h hj => za_lu_ok (l := thX1) (Q := fun i q => ∀ j, ([] : List Nat).elem j = true → za_tl RX1 i j q.2 q.1) za_nil i q h j hj, za_lu_ok (l := ckX1) (Q := fun i ci => ∃ r, vwCl[ci]? = some r ∧ Jvm.Cond.classLink RX1 i r.1 ∈ lw_tbl) za_nil⟩
theorem uX1_f9 : za_LK.fl lkX1 9 = some (2, 7, .int, 0) := rfl
theorem uX1_f15 : za_LK.fl lkX1 15 = some (2, 8, .int, 0) := rfl
theorem uX1_f18 : za_LK.fl lkX1 18 = some (2, 0, .int, 1) := rfl
theorem uX1_f21 : za_LK.fl lkX1 21 = some (2, 1, .int, 1) := rfl
theorem uX1_f24 : za_LK.fl lkX1 24 = some (2, 2, .int, 1) := rfl
theorem uX1_f27 : za_LK.fl lkX1 27 = some (2, 3, .int, 1) := rfl
theorem uX1_f30 : za_LK.fl lkX1 30 = some (2, 4, .int, 1) := rfl
theorem uX1_f33 : za_LK.fl lkX1 33 = some (2, 5, .int, 1) := rfl
theorem uX1_f36 : za_LK.fl lkX1 36 = some (2, 6, .int, 1) := rfl
theorem uX1_m3 : za_LK.mt lkX1 3 = some (4, 0, 0, 0, mX7_isIn) := rfl
theorem lmX2_3 : za_okm RX2 3 (4, 0, 0, 0, mX7_isIn) := ⟨rfl, (tm_3 (List.mem_of_getElem? (i := 95) (by decide +kernel))), (tm_1 (List.mem_of_getElem? (i := 31) (by decide +kernel))), (tm_1 (List.mem_of_getElem? (i := 32) (by decide +kernel)))⟩
theorem lnX2_9 : za_nl RX2 9 0 [.int (nI 0), .null, .int (nI 0)] := ⟨_, _, _, tyJx4a65c, rfl, (tm_3 (List.mem_of_getElem? (i := 96) (by decide +kernel))), (tm_1 (List.mem_of_getElem? (i := 34) (by decide +kernel))), (tm_1 (List.mem_of_getElem? (i := 4) (by decide +kernel))), uwJx4a65c, tyJx4a65c_ok, rfl, by decide +kernel⟩
theorem lmX2_11 : za_okm RX2 11 (2, 0, 0, 3, mJx4a65c_init_da8c8) := ⟨rfl, mkJx4a65c_init_da8c8, rfl, rfl, rfl, (tm_3 (List.mem_of_getElem? (i := 97) (by decide +kernel))), (tm_1 (List.mem_of_getElem? (i := 36) (by decide +kernel)))⟩
theorem lfX2_12 : za_fl RX2 12 3 4 (.object "java/util/ArrayList") 1 := ⟨_, _, _, "FeedTower$Download", tyX2, rfl, by decide, (tm_3 (List.mem_of_getElem? (i := 106) (by decide +kernel))), Or.inl rfl, uwX2, tyX2_ok, nmX2, rfl, (fun h => by cases h), fun _ => ⟨rfl, rfl⟩⟩
theorem lfX2_18 : za_fl RX2 18 3 5 (.object "java/util/ArrayList") 1 := ⟨_, _, _, "FeedTower$Download", tyX2, rfl, by decide, (tm_3 (List.mem_of_getElem? (i := 108) (by decide +kernel))), Or.inl rfl, uwX2, tyX2_ok, nmX2, rfl, (fun h => by cases h), fun _ => ⟨rfl, rfl⟩⟩
theorem lfX2_21 : za_fl RX2 21 3 6 (.int) 0 := ⟨_, _, _, "FeedTower$Download", tyX2, rfl, by decide, (tm_3 (List.mem_of_getElem? (i := 109) (by decide +kernel))), Or.inl rfl, uwX2, tyX2_ok, nmX2, rfl, fun _ => rfl, fun h => by cases h⟩
theorem lfX2_25 : za_fl RX2 25 3 7 (.int) 0 := ⟨_, _, _, "FeedTower$Download", tyX2, rfl, by decide, (tm_3 (List.mem_of_getElem? (i := 111) (by decide +kernel))), Or.inl rfl, uwX2, tyX2_ok, nmX2, rfl, fun _ => rfl, fun h => by cases h⟩
theorem lfX2_28 : za_fl RX2 28 3 8 (.int) 0 := ⟨_, _, _, "FeedTower$Download", tyX2, rfl, by decide, (tm_3 (List.mem_of_getElem? (i := 113) (by decide +kernel))), Or.inl rfl, uwX2, tyX2_ok, nmX2, rfl, fun _ => rfl, fun h => by cases h⟩
theorem lfX2_31 : za_fl RX2 31 3 9 (.int) 0 := ⟨_, _, _, "FeedTower$Download", tyX2, rfl, by decide, (tm_3 (List.mem_of_getElem? (i := 115) (by decide +kernel))), Or.inl rfl, uwX2, tyX2_ok, nmX2, rfl, fun _ => rfl, fun h => by cases h⟩
theorem lfX2_34 : za_fl RX2 34 3 0 (.int) 1 := ⟨_, _, _, "FeedTower$Download", tyX2, rfl, by decide, (tm_3 (List.mem_of_getElem? (i := 98) (by decide +kernel))), Or.inl rfl, uwX2, tyX2_ok, nmX2, rfl, (fun h => by cases h), fun _ => ⟨rfl, rfl⟩⟩
theorem lfX2_37 : za_fl RX2 37 3 1 (.int) 1 := ⟨_, _, _, "FeedTower$Download", tyX2, rfl, by decide, (tm_3 (List.mem_of_getElem? (i := 100) (by decide +kernel))), Or.inl rfl, uwX2, tyX2_ok, nmX2, rfl, (fun h => by cases h), fun _ => ⟨rfl, rfl⟩⟩
theorem lfX2_40 : za_fl RX2 40 3 2 (.int) 1 := ⟨_, _, _, "FeedTower$Download", tyX2, rfl, by decide, (tm_3 (List.mem_of_getElem? (i := 102) (by decide +kernel))), Or.inl rfl, uwX2, tyX2_ok, nmX2, rfl, (fun h => by cases h), fun _ => ⟨rfl, rfl⟩⟩
theorem lfX2_43 : za_fl RX2 43 3 3 (.int) 1 := ⟨_, _, _, "FeedTower$Download", tyX2, rfl, by decide, (tm_3 (List.mem_of_getElem? (i := 104) (by decide +kernel))), Or.inl rfl, uwX2, tyX2_ok, nmX2, rfl, (fun h => by cases h), fun _ => ⟨rfl, rfl⟩⟩
theorem lnX2_46 : za_nl RX2 46 6 [.null, .int (nI 0), .int (nI 0), .int (nI 0), .int (nI 0)] := ⟨_, _, _, tyX5, rfl, (tm_3 (List.mem_of_getElem? (i := 162) (by decide +kernel))), (tm_3 (List.mem_of_getElem? (i := 163) (by decide +kernel))), (tm_1 (List.mem_of_getElem? (i := 23) (by decide +kernel))), uwX5, tyX5_ok, rfl, by decide +kernel⟩
theorem lmX2_48 : za_okm RX2 48 (2, 5, 0, 1, mX5_init) := ⟨rfl, mkX5_init, rfl, rfl, rfl, (tm_3 (List.mem_of_getElem? (i := 164) (by decide +kernel))), (tm_3 (List.mem_of_getElem? (i := 165) (by decide +kernel)))⟩
theorem lmX2_51 : za_okm RX2 51 (0, 1, 0, 6, mJx4a65c_add_9ea2d) := ⟨rfl, ⟨mkJx4a65c_add_9ea2d, rfl, (tm_3 (List.mem_of_getElem? (i := 190) (by decide +kernel))), (tm_1 (List.mem_of_getElem? (i := 231) (by decide +kernel))), (tm_1 (List.mem_of_getElem? (i := 232) (by decide +kernel)))⟩, _, rfl, rfl⟩
theorem lmX2_55 : za_okm RX2 55 (0, 2, 3, 4, mX2_loadedIn) := ⟨rfl, ⟨mkX2_loadedIn, rfl, (tm_3 (List.mem_of_getElem? (i := 208) (by decide +kernel))), (tm_3 (List.mem_of_getElem? (i := 209) (by decide +kernel))), (tm_3 (List.mem_of_getElem? (i := 210) (by decide +kernel)))⟩, _, rfl, rfl⟩
theorem lnX2_59 : za_nl RX2 59 7 [.int (nI 0), .int (nI 0)] := ⟨_, _, _, tyX6, rfl, (tm_3 (List.mem_of_getElem? (i := 218) (by decide +kernel))), (tm_3 (List.mem_of_getElem? (i := 225) (by decide +kernel))), (tm_1 (List.mem_of_getElem? (i := 24) (by decide +kernel))), uwX6, tyX6_ok, rfl, by decide +kernel⟩
theorem lmX2_61 : za_okm RX2 61 (2, 2, 0, 1, mX6_init) := ⟨rfl, mkX6_init, rfl, rfl, rfl, (tm_3 (List.mem_of_getElem? (i := 226) (by decide +kernel))), (tm_3 (List.mem_of_getElem? (i := 227) (by decide +kernel)))⟩
theorem lmX2_64 : za_okm RX2 64 (0, 1, 3, 3, mX2_loadedUntil) := ⟨rfl, ⟨mkX2_loadedUntil, rfl, (tm_3 (List.mem_of_getElem? (i := 212) (by decide +kernel))), (tm_3 (List.mem_of_getElem? (i := 213) (by decide +kernel))), (tm_3 (List.mem_of_getElem? (i := 214) (by decide +kernel)))⟩, _, rfl, rfl⟩
theorem lmX2_68 : za_okm RX2 68 (6, 2, 0, 0, mX7_isIn) := ⟨rfl, (tm_3 (List.mem_of_getElem? (i := 219) (by decide +kernel))), (tm_2 (List.mem_of_getElem? (i := 43) (by decide +kernel))), (tm_1 (List.mem_of_getElem? (i := 13) (by decide +kernel))), (tm_2 (List.mem_of_getElem? (i := 44) (by decide +kernel)))⟩
theorem lmX2_73 : za_okm RX2 73 (0, 2, 3, 3, mX2_nextRangeBehind) := ⟨rfl, ⟨mkX2_nextRangeBehind, rfl, (tm_3 (List.mem_of_getElem? (i := 220) (by decide +kernel))), (tm_3 (List.mem_of_getElem? (i := 221) (by decide +kernel))), (tm_3 (List.mem_of_getElem? (i := 222) (by decide +kernel)))⟩, _, rfl, rfl⟩
theorem lmX2_76 : za_okm RX2 76 (5, 2, 0, 0, mX7_isIn) := ⟨rfl, (tm_3 (List.mem_of_getElem? (i := 224) (by decide +kernel))), (tm_2 (List.mem_of_getElem? (i := 10) (by decide +kernel))), (tm_1 (List.mem_of_getElem? (i := 13) (by decide +kernel))), (tm_2 (List.mem_of_getElem? (i := 11) (by decide +kernel)))⟩
theorem lmX2_79 : za_okm RX2 79 (0, 0, 0, 0, mJx4a65c_size_8abf5) := ⟨rfl, ⟨mkJx4a65c_size_8abf5, rfl, (tm_3 (List.mem_of_getElem? (i := 216) (by decide +kernel))), (tm_1 (List.mem_of_getElem? (i := 211) (by decide +kernel))), (tm_1 (List.mem_of_getElem? (i := 212) (by decide +kernel)))⟩, _, rfl, rfl⟩
theorem lmX2_83 : za_okm RX2 83 (0, 1, 0, 2, mJx4a65c_get_915e3) := ⟨rfl, ⟨mkJx4a65c_get_915e3, rfl, (tm_3 (List.mem_of_getElem? (i := 217) (by decide +kernel))), (tm_2 (List.mem_of_getElem? (i := 106) (by decide +kernel))), (tm_2 (List.mem_of_getElem? (i := 107) (by decide +kernel)))⟩, _, rfl, rfl⟩
theorem lfX2_87 : za_fl RX2 87 7 0 (.int) 2 := ⟨_, _, _, "FeedTower$Range", tyX6, rfl, by decide, (tm_3 (List.mem_of_getElem? (i := 231) (by decide +kernel))), Or.inl rfl, uwX6, tyX6_ok, nmX6, rfl, (fun h => by cases h), fun h => by cases h⟩
theorem lfX2_90 : za_fl RX2 90 7 1 (.int) 2 := ⟨_, _, _, "FeedTower$Range", tyX6, rfl, by decide, (tm_3 (List.mem_of_getElem? (i := 233) (by decide +kernel))), Or.inl rfl, uwX6, tyX6_ok, nmX6, rfl, (fun h => by cases h), fun h => by cases h⟩
theorem lfX2_93 : za_fl RX2 93 6 4 (.int) 2 := ⟨_, _, _, "FeedTower$Piece", tyX5, rfl, by decide, (tm_3 (List.mem_of_getElem? (i := 177) (by decide +kernel))), Or.inl rfl, uwX5, tyX5_ok, nmX5, rfl, (fun h => by cases h), fun h => by cases h⟩
theorem lfX2_96 : za_fl RX2 96 6 2 (.int) 2 := ⟨_, _, _, "FeedTower$Piece", tyX5, rfl, by decide, (tm_3 (List.mem_of_getElem? (i := 173) (by decide +kernel))), Or.inl rfl, uwX5, tyX5_ok, nmX5, rfl, (fun h => by cases h), fun h => by cases h⟩
theorem lfX2_99 : za_fl RX2 99 6 3 (.int) 2 := ⟨_, _, _, "FeedTower$Piece", tyX5, rfl, by decide, (tm_3 (List.mem_of_getElem? (i := 175) (by decide +kernel))), Or.inl rfl, uwX5, tyX5_ok, nmX5, rfl, (fun h => by cases h), fun h => by cases h⟩
theorem lfX2_102 : za_fl RX2 102 6 0 (.object "FeedTower$Part") 2 := ⟨_, _, _, "FeedTower$Piece", tyX5, rfl, by decide, (tm_3 (List.mem_of_getElem? (i := 169) (by decide +kernel))), Or.inl rfl, uwX5, tyX5_ok, nmX5, rfl, (fun h => by cases h), fun h => by cases h⟩
theorem lfX2_106 : za_fl RX2 106 5 0 (.int) 2 := ⟨_, _, _, "FeedTower$Part", tyX4, rfl, by decide, (tm_1 (List.mem_of_getElem? (i := 181) (by decide +kernel))), Or.inl rfl, uwX4, tyX4_ok, nmX4, rfl, (fun h => by cases h), fun h => by cases h⟩
theorem lfX2_111 : za_fl RX2 111 5 3 (.boolean) 0 := ⟨_, _, _, "FeedTower$Part", tyX4, rfl, by decide, (tm_1 (List.mem_of_getElem? (i := 191) (by decide +kernel))), Or.inl rfl, uwX4, tyX4_ok, nmX4, rfl, fun _ => rfl, fun h => by cases h⟩
theorem lfX2_115 : za_fl RX2 115 5 4 (.int) 0 := ⟨_, _, _, "FeedTower$Part", tyX4, rfl, by decide, (tm_1 (List.mem_of_getElem? (i := 193) (by decide +kernel))), Or.inl rfl, uwX4, tyX4_ok, nmX4, rfl, fun _ => rfl, fun h => by cases h⟩
theorem lmX2_118 : za_okm RX2 118 (3, 2, 0, 0, mX7_hasBit) := ⟨rfl, mkX7_hasBit, rfl, ⟨_, tm_4 (List.mem_of_getElem? (i := 25) (show _ = some (Jvm.Cond.methodLinkNest RX2 118 mX7_hasBit.y "FeedTower") by decide +kernel))⟩, (tm_2 (List.mem_of_getElem? (i := 78) (by decide +kernel)))⟩
theorem lmX2_122 : za_okm RX2 122 (0, 2, 3, 3, mX2_lastLoadedIn) := ⟨rfl, ⟨mkX2_lastLoadedIn, rfl, (tm_4 (List.mem_of_getElem? (i := 26) (by decide +kernel))), (tm_4 (List.mem_of_getElem? (i := 27) (by decide +kernel))), (tm_4 (List.mem_of_getElem? (i := 28) (by decide +kernel)))⟩, _, rfl, rfl⟩
theorem lfX2_125 : za_fl RX2 125 6 1 (.int) 2 := ⟨_, _, _, "FeedTower$Piece", tyX5, rfl, by decide, (tm_3 (List.mem_of_getElem? (i := 171) (by decide +kernel))), Or.inl rfl, uwX5, tyX5_ok, nmX5, rfl, (fun h => by cases h), fun h => by cases h⟩
def flX2 : List (Nat × (Nat × Nat × FieldType × Nat)) := [(12, (3, 4, .object "java/util/ArrayList", 1)), (18, (3, 5, .object "java/util/ArrayList", 1)), (21, (3, 6, .int, 0)), (25, (3, 7, .int, 0)), (28, (3, 8, .int, 0)), (31, (3, 9, .int, 0)), (34, (3, 0, .int, 1)), (37, (3, 1, .int, 1)), (40, (3, 2, .int, 1)), (43, (3, 3, .int, 1)), (87, (7, 0, .int, 2)), (90, (7, 1, .int, 2)), (93, (6, 4, .int, 2)), (96, (6, 2, .int, 2)), (99, (6, 3, .int, 2)), (102, (6, 0, .object "FeedTower$Part", 2)), (106, (5, 0, .int, 2)), (111, (5, 3, .boolean, 0)), (115, (5, 4, .int, 0)), (125, (6, 1, .int, 2))]
def mtX2 : List (Nat × (Nat × Nat × Nat × Nat × za_M)) := [(3, (4, 0, 0, 0, mX7_isIn)), (11, (2, 0, 0, 3, mJx4a65c_init_da8c8)), (48, (2, 5, 0, 1, mX5_init)), (51, (0, 1, 0, 6, mJx4a65c_add_9ea2d)), (55, (0, 2, 3, 4, mX2_loadedIn)), (61, (2, 2, 0, 1, mX6_init)), (64, (0, 1, 3, 3, mX2_loadedUntil)), (68, (6, 2, 0, 0, mX7_isIn)), (73, (0, 2, 3, 3, mX2_nextRangeBehind)), (76, (5, 2, 0, 0, mX7_isIn)), (79, (0, 0, 0, 0, mJx4a65c_size_8abf5)), (83, (0, 1, 0, 2, mJx4a65c_get_915e3)), (118, (3, 2, 0, 0, mX7_hasBit)), (122, (0, 2, 3, 3, mX2_lastLoadedIn))]
def nwX2 : List (Nat × (Nat × List Value)) := [(9, (0, [.int (nI 0), .null, .int (nI 0)])), (46, (6, [.null, .int (nI 0), .int (nI 0), .int (nI 0), .int (nI 0)])), (59, (7, [.int (nI 0), .int (nI 0)]))]
def thX2 : List (Nat × (Nat × Nat)) := []
def ckX2 : List (Nat × Nat) := [(46, 6), (59, 7)]
def lkX2 : za_LK := (za_lu flX2, za_lu mtX2, za_lu nwX2, za_lu thX2, (fun i => ([] : List Nat).elem i), za_lu ckX2)
theorem okX2 : za_lk RX2 lkX2 := ⟨za_lu_ok (l := flX2) (Q := fun i q => za_fl RX2 i q.1 q.2.1 q.2.2.1 q.2.2.2) (za_cons lfX2_12 (za_cons lfX2_18 (za_cons lfX2_21 (za_cons lfX2_25 (za_cons lfX2_28 (za_cons lfX2_31 (za_cons lfX2_34 (za_cons lfX2_37 (za_cons lfX2_40 (za_cons lfX2_43 (za_cons lfX2_87 (za_cons lfX2_90 (za_cons lfX2_93 (za_cons lfX2_96 (za_cons lfX2_99 (za_cons lfX2_102 (za_cons lfX2_106 (za_cons lfX2_111 (za_cons lfX2_115 (za_cons lfX2_125 za_nil)))))))))))))))))))), za_lu_ok (l := mtX2) (Q := za_okm RX2) (za_cons lmX2_3 (za_cons lmX2_11 (za_cons lmX2_48 (za_cons lmX2_51 (za_cons lmX2_55 (za_cons lmX2_61 (za_cons lmX2_64 (za_cons lmX2_68 (za_cons lmX2_73 (za_cons lmX2_76 (za_cons lmX2_79 (za_cons lmX2_83 (za_cons lmX2_118 (za_cons lmX2_122 za_nil)))))))))))))), za_lu_ok (l := nwX2) (Q := fun i q => za_nl RX2 i q.1 q.2) (za_cons lnX2_9 (za_cons lnX2_46 (za_cons lnX2_59 za_nil))), fun i q j h hj => za_lu_ok (l := thX2) (Q := fun i q => ∀ j, ([] : List Nat).elem j = true → za_tl RX2 i j q.2 q.1) za_nil i q h j hj, za_lu_ok (l := ckX2) (Q := fun i ci => ∃ r, vwCl[ci]? = some r ∧ Jvm.Cond.classLink RX2 i r.1 ∈ lw_tbl) (za_cons ⟨_, rfl, (tm_3 (List.mem_of_getElem? (i := 162) (by decide +kernel)))⟩ (za_cons ⟨_, rfl, (tm_3 (List.mem_of_getElem? (i := 218) (by decide +kernel)))⟩ za_nil))⟩
theorem uX2_f12 : za_LK.fl lkX2 12 = some (3, 4, .object "java/util/ArrayList", 1) := rfl
theorem uX2_f18 : za_LK.fl lkX2 18 = some (3, 5, .object "java/util/ArrayList", 1) := rfl
theorem uX2_f21 : za_LK.fl lkX2 21 = some (3, 6, .int, 0) := rfl
theorem uX2_f25 : za_LK.fl lkX2 25 = some (3, 7, .int, 0) := rfl
theorem uX2_f28 : za_LK.fl lkX2 28 = some (3, 8, .int, 0) := rfl
theorem uX2_f31 : za_LK.fl lkX2 31 = some (3, 9, .int, 0) := rfl
theorem uX2_f34 : za_LK.fl lkX2 34 = some (3, 0, .int, 1) := rfl
theorem uX2_f37 : za_LK.fl lkX2 37 = some (3, 1, .int, 1) := rfl
theorem uX2_f40 : za_LK.fl lkX2 40 = some (3, 2, .int, 1) := rfl
theorem uX2_f43 : za_LK.fl lkX2 43 = some (3, 3, .int, 1) := rfl
theorem uX2_f87 : za_LK.fl lkX2 87 = some (7, 0, .int, 2) := rfl
theorem uX2_f90 : za_LK.fl lkX2 90 = some (7, 1, .int, 2) := rfl
theorem uX2_f93 : za_LK.fl lkX2 93 = some (6, 4, .int, 2) := rfl
theorem uX2_f96 : za_LK.fl lkX2 96 = some (6, 2, .int, 2) := rfl
theorem uX2_f99 : za_LK.fl lkX2 99 = some (6, 3, .int, 2) := rfl
theorem uX2_f102 : za_LK.fl lkX2 102 = some (6, 0, .object "FeedTower$Part", 2) := rfl
theorem uX2_f106 : za_LK.fl lkX2 106 = some (5, 0, .int, 2) := rfl
theorem uX2_f111 : za_LK.fl lkX2 111 = some (5, 3, .boolean, 0) := rfl
theorem uX2_f115 : za_LK.fl lkX2 115 = some (5, 4, .int, 0) := rfl
theorem uX2_f125 : za_LK.fl lkX2 125 = some (6, 1, .int, 2) := rfl
theorem uX2_m3 : za_LK.mt lkX2 3 = some (4, 0, 0, 0, mX7_isIn) := rfl
theorem uX2_m11 : za_LK.mt lkX2 11 = some (2, 0, 0, 3, mJx4a65c_init_da8c8) := rfl
theorem uX2_m48 : za_LK.mt lkX2 48 = some (2, 5, 0, 1, mX5_init) := rfl
theorem uX2_m51 : za_LK.mt lkX2 51 = some (0, 1, 0, 6, mJx4a65c_add_9ea2d) := rfl
theorem uX2_m55 : za_LK.mt lkX2 55 = some (0, 2, 3, 4, mX2_loadedIn) := rfl
theorem uX2_m61 : za_LK.mt lkX2 61 = some (2, 2, 0, 1, mX6_init) := rfl
theorem uX2_m64 : za_LK.mt lkX2 64 = some (0, 1, 3, 3, mX2_loadedUntil) := rfl
theorem uX2_m68 : za_LK.mt lkX2 68 = some (6, 2, 0, 0, mX7_isIn) := rfl
theorem uX2_m73 : za_LK.mt lkX2 73 = some (0, 2, 3, 3, mX2_nextRangeBehind) := rfl
theorem uX2_m76 : za_LK.mt lkX2 76 = some (5, 2, 0, 0, mX7_isIn) := rfl
theorem uX2_m79 : za_LK.mt lkX2 79 = some (0, 0, 0, 0, mJx4a65c_size_8abf5) := rfl
theorem uX2_m83 : za_LK.mt lkX2 83 = some (0, 1, 0, 2, mJx4a65c_get_915e3) := rfl
theorem uX2_m118 : za_LK.mt lkX2 118 = some (3, 2, 0, 0, mX7_hasBit) := rfl
theorem uX2_m122 : za_LK.mt lkX2 122 = some (0, 2, 3, 3, mX2_lastLoadedIn) := rfl
theorem uX2_n9 : za_LK.nw lkX2 9 = some (0, [.int (nI 0), .null, .int (nI 0)]) := rfl
theorem uX2_n46 : za_LK.nw lkX2 46 = some (6, [.null, .int (nI 0), .int (nI 0), .int (nI 0), .int (nI 0)]) := rfl
theorem uX2_n59 : za_LK.nw lkX2 59 = some (7, [.int (nI 0), .int (nI 0)]) := rfl
theorem uX2_c46 : za_LK.ck lkX2 46 = some 6 := rfl
theorem uX2_c59 : za_LK.ck lkX2 59 = some 7 := rfl
theorem lmX3_1 : za_okm RX3 1 (4, 0, 0, 0, mX7_isIn) := ⟨rfl, (tm_2 (List.mem_of_getElem? (i := 129) (by decide +kernel))), (tm_1 (List.mem_of_getElem? (i := 31) (by decide +kernel))), (tm_1 (List.mem_of_getElem? (i := 32) (by decide +kernel)))⟩
theorem lfX3_7 : za_fl RX3 7 4 4 (.boolean) 0 := ⟨_, _, _, "FeedTower$Item", tyX3, rfl, by decide, (tm_2 (List.mem_of_getElem? (i := 138) (by decide +kernel))), Or.inl rfl, uwX3, tyX3_ok, nmX3, rfl, fun _ => rfl, fun h => by cases h⟩
theorem lfX3_13 : za_fl RX3 13 4 0 (.int) 1 := ⟨_, _, _, "FeedTower$Item", tyX3, rfl, by decide, (tm_2 (List.mem_of_getElem? (i := 130) (by decide +kernel))), Or.inl rfl, uwX3, tyX3_ok, nmX3, rfl, (fun h => by cases h), fun _ => ⟨rfl, rfl⟩⟩
theorem lfX3_17 : za_fl RX3 17 4 1 (.int) 1 := ⟨_, _, _, "FeedTower$Item", tyX3, rfl, by decide, (tm_2 (List.mem_of_getElem? (i := 132) (by decide +kernel))), Or.inl rfl, uwX3, tyX3_ok, nmX3, rfl, (fun h => by cases h), fun _ => ⟨rfl, rfl⟩⟩
theorem lfX3_20 : za_fl RX3 20 4 2 (.int) 1 := ⟨_, _, _, "FeedTower$Item", tyX3, rfl, by decide, (tm_2 (List.mem_of_getElem? (i := 134) (by decide +kernel))), Or.inl rfl, uwX3, tyX3_ok, nmX3, rfl, (fun h => by cases h), fun _ => ⟨rfl, rfl⟩⟩
theorem lfX3_23 : za_fl RX3 23 4 3 (.object "java/util/ArrayList") 1 := ⟨_, _, _, "FeedTower$Item", tyX3, rfl, by decide, (tm_2 (List.mem_of_getElem? (i := 136) (by decide +kernel))), Or.inl rfl, uwX3, tyX3_ok, nmX3, rfl, (fun h => by cases h), fun _ => ⟨rfl, rfl⟩⟩
theorem lmX3_27 : za_okm RX3 27 (0, 0, 0, 0, mJx4a65c_size_8abf5) := ⟨rfl, ⟨mkJx4a65c_size_8abf5, rfl, (tm_2 (List.mem_of_getElem? (i := 159) (by decide +kernel))), (tm_1 (List.mem_of_getElem? (i := 211) (by decide +kernel))), (tm_1 (List.mem_of_getElem? (i := 212) (by decide +kernel)))⟩, _, rfl, rfl⟩
theorem lmX3_40 : za_okm RX3 40 (0, 1, 0, 2, mJx4a65c_get_915e3) := ⟨rfl, ⟨mkJx4a65c_get_915e3, rfl, (tm_2 (List.mem_of_getElem? (i := 160) (by decide +kernel))), (tm_2 (List.mem_of_getElem? (i := 106) (by decide +kernel))), (tm_2 (List.mem_of_getElem? (i := 107) (by decide +kernel)))⟩, _, rfl, rfl⟩
theorem lfX3_46 : za_fl RX3 46 5 3 (.boolean) 0 := ⟨_, _, _, "FeedTower$Part", tyX4, rfl, by decide, (tm_1 (List.mem_of_getElem? (i := 189) (by decide +kernel))), Or.inl rfl, uwX4, tyX4_ok, nmX4, rfl, fun _ => rfl, fun h => by cases h⟩
theorem lfX3_49 : za_fl RX3 49 5 1 (.int) 2 := ⟨_, _, _, "FeedTower$Part", tyX4, rfl, by decide, (tm_1 (List.mem_of_getElem? (i := 184) (by decide +kernel))), Or.inl rfl, uwX4, tyX4_ok, nmX4, rfl, (fun h => by cases h), fun h => by cases h⟩
theorem ltX3_33 : ∀ j ∈ ([35] : List Nat), za_tl RX3 33 j 37 2 := by
  intro j hj
  refine ⟨Or.inr rfl, by decide, ?_, (tm_2 (List.mem_of_getElem? (i := 186) (by decide +kernel))), (tm_1 (List.mem_of_getElem? (i := 16) (by decide +kernel))), by decide +kernel, by decide +kernel, by decide +kernel⟩
  rcases List.mem_cons.mp hj with rfl | hj
  · exact ⟨"there is no such part of the item", (tm_2 (List.mem_of_getElem? (i := 187) (by decide +kernel)))⟩
  cases hj
def flX3 : List (Nat × (Nat × Nat × FieldType × Nat)) := [(7, (4, 4, .boolean, 0)), (13, (4, 0, .int, 1)), (17, (4, 1, .int, 1)), (20, (4, 2, .int, 1)), (23, (4, 3, .object "java/util/ArrayList", 1)), (46, (5, 3, .boolean, 0)), (49, (5, 1, .int, 2))]
def mtX3 : List (Nat × (Nat × Nat × Nat × Nat × za_M)) := [(1, (4, 0, 0, 0, mX7_isIn)), (27, (0, 0, 0, 0, mJx4a65c_size_8abf5)), (40, (0, 1, 0, 2, mJx4a65c_get_915e3))]
def nwX3 : List (Nat × (Nat × List Value)) := []
def thX3 : List (Nat × (Nat × Nat)) := [(33, (2, 37))]
def ckX3 : List (Nat × Nat) := [(44, 5)]
def lkX3 : za_LK := (za_lu flX3, za_lu mtX3, za_lu nwX3, za_lu thX3, (fun i => ([35] : List Nat).elem i), za_lu ckX3)
theorem okX3 : za_lk RX3 lkX3 := ⟨za_lu_ok (l := flX3) (Q := fun i q => za_fl RX3 i q.1 q.2.1 q.2.2.1 q.2.2.2) (za_cons lfX3_7 (za_cons lfX3_13 (za_cons lfX3_17 (za_cons lfX3_20 (za_cons lfX3_23 (za_cons lfX3_46 (za_cons lfX3_49 za_nil))))))), za_lu_ok (l := mtX3) (Q := za_okm RX3) (za_cons lmX3_1 (za_cons lmX3_27 (za_cons lmX3_40 za_nil))), za_lu_ok (l := nwX3) (Q := fun i q => za_nl RX3 i q.1 q.2) za_nil, fun i q j h hj => za_lu_ok (l := thX3) (Q := fun i q => ∀ j, ([35] : List Nat).elem j = true → za_tl RX3 i j q.2 q.1) (za_cons (fun j hj => ltX3_33 j (List.elem_iff.mp hj)) za_nil) i q h j hj, za_lu_ok (l := ckX3) (Q := fun i ci => ∃ r, vwCl[ci]? = some r ∧ Jvm.Cond.classLink RX3 i r.1 ∈ lw_tbl) (za_cons ⟨_, rfl, (tm_2 (List.mem_of_getElem? (i := 161) (by decide +kernel)))⟩ za_nil)⟩
theorem uX3_f7 : za_LK.fl lkX3 7 = some (4, 4, .boolean, 0) := rfl
theorem uX3_f13 : za_LK.fl lkX3 13 = some (4, 0, .int, 1) := rfl
theorem uX3_f17 : za_LK.fl lkX3 17 = some (4, 1, .int, 1) := rfl
theorem uX3_f20 : za_LK.fl lkX3 20 = some (4, 2, .int, 1) := rfl
theorem uX3_f23 : za_LK.fl lkX3 23 = some (4, 3, .object "java/util/ArrayList", 1) := rfl
theorem uX3_f46 : za_LK.fl lkX3 46 = some (5, 3, .boolean, 0) := rfl
theorem uX3_f49 : za_LK.fl lkX3 49 = some (5, 1, .int, 2) := rfl
theorem uX3_m1 : za_LK.mt lkX3 1 = some (4, 0, 0, 0, mX7_isIn) := rfl
theorem uX3_m27 : za_LK.mt lkX3 27 = some (0, 0, 0, 0, mJx4a65c_size_8abf5) := rfl
theorem uX3_m40 : za_LK.mt lkX3 40 = some (0, 1, 0, 2, mJx4a65c_get_915e3) := rfl
theorem uX3_n33 : za_LK.nw lkX3 33 = none := rfl
theorem uX3_t33 : za_LK.th lkX3 33 = some (2, 37) := rfl
theorem uX3_s35 : za_LK.sx lkX3 35 = true := rfl
theorem uX3_c44 : za_LK.ck lkX3 44 = some 5 := rfl
theorem lmX4_1 : za_okm RX4 1 (4, 0, 0, 0, mX7_isIn) := ⟨rfl, (tm_1 (List.mem_of_getElem? (i := 179) (by decide +kernel))), (tm_1 (List.mem_of_getElem? (i := 31) (by decide +kernel))), (tm_1 (List.mem_of_getElem? (i := 32) (by decide +kernel)))⟩
theorem lfX4_7 : za_fl RX4 7 5 3 (.boolean) 0 := ⟨_, _, _, "FeedTower$Part", tyX4, rfl, by decide, (tm_1 (List.mem_of_getElem? (i := 188) (by decide +kernel))), Or.inl rfl, uwX4, tyX4_ok, nmX4, rfl, fun _ => rfl, fun h => by cases h⟩
theorem lfX4_13 : za_fl RX4 13 5 4 (.int) 0 := ⟨_, _, _, "FeedTower$Part", tyX4, rfl, by decide, (tm_1 (List.mem_of_getElem? (i := 192) (by decide +kernel))), Or.inl rfl, uwX4, tyX4_ok, nmX4, rfl, fun _ => rfl, fun h => by cases h⟩
theorem lfX4_17 : za_fl RX4 17 5 0 (.int) 1 := ⟨_, _, _, "FeedTower$Part", tyX4, rfl, by decide, (tm_1 (List.mem_of_getElem? (i := 180) (by decide +kernel))), Or.inl rfl, uwX4, tyX4_ok, nmX4, rfl, (fun h => by cases h), fun _ => ⟨rfl, rfl⟩⟩
theorem lfX4_20 : za_fl RX4 20 5 1 (.int) 1 := ⟨_, _, _, "FeedTower$Part", tyX4, rfl, by decide, (tm_1 (List.mem_of_getElem? (i := 183) (by decide +kernel))), Or.inl rfl, uwX4, tyX4_ok, nmX4, rfl, (fun h => by cases h), fun _ => ⟨rfl, rfl⟩⟩
theorem lfX4_23 : za_fl RX4 23 5 2 (.int) 1 := ⟨_, _, _, "FeedTower$Part", tyX4, rfl, by decide, (tm_1 (List.mem_of_getElem? (i := 186) (by decide +kernel))), Or.inl rfl, uwX4, tyX4_ok, nmX4, rfl, (fun h => by cases h), fun _ => ⟨rfl, rfl⟩⟩
def flX4 : List (Nat × (Nat × Nat × FieldType × Nat)) := [(7, (5, 3, .boolean, 0)), (13, (5, 4, .int, 0)), (17, (5, 0, .int, 1)), (20, (5, 1, .int, 1)), (23, (5, 2, .int, 1))]
def mtX4 : List (Nat × (Nat × Nat × Nat × Nat × za_M)) := [(1, (4, 0, 0, 0, mX7_isIn))]
def nwX4 : List (Nat × (Nat × List Value)) := []
def thX4 : List (Nat × (Nat × Nat)) := []
def ckX4 : List (Nat × Nat) := []
def lkX4 : za_LK := (za_lu flX4, za_lu mtX4, za_lu nwX4, za_lu thX4, (fun i => ([] : List Nat).elem i), za_lu ckX4)
theorem okX4 : za_lk RX4 lkX4 := ⟨za_lu_ok (l := flX4) (Q := fun i q => za_fl RX4 i q.1 q.2.1 q.2.2.1 q.2.2.2) (za_cons lfX4_7 (za_cons lfX4_13 (za_cons lfX4_17 (za_cons lfX4_20 (za_cons lfX4_23 za_nil))))), za_lu_ok (l := mtX4) (Q := za_okm RX4) (za_cons lmX4_1 za_nil), za_lu_ok (l := nwX4) (Q := fun i q => za_nl RX4 i q.1 q.2) za_nil, fun i q j h hj => za_lu_ok (l := thX4) (Q := fun i q => ∀ j, ([] : List Nat).elem j = true → za_tl RX4 i j q.2 q.1) za_nil i q h j hj, za_lu_ok (l := ckX4) (Q := fun i ci => ∃ r, vwCl[ci]? = some r ∧ Jvm.Cond.classLink RX4 i r.1 ∈ lw_tbl) za_nil⟩
theorem uX4_f7 : za_LK.fl lkX4 7 = some (5, 3, .boolean, 0) := rfl
theorem uX4_f13 : za_LK.fl lkX4 13 = some (5, 4, .int, 0) := rfl
theorem uX4_f17 : za_LK.fl lkX4 17 = some (5, 0, .int, 1) := rfl
theorem uX4_f20 : za_LK.fl lkX4 20 = some (5, 1, .int, 1) := rfl
theorem uX4_f23 : za_LK.fl lkX4 23 = some (5, 2, .int, 1) := rfl
theorem uX4_m1 : za_LK.mt lkX4 1 = some (4, 0, 0, 0, mX7_isIn) := rfl
theorem lmX5_1 : za_okm RX5 1 (4, 0, 0, 0, mX7_isIn) := ⟨rfl, (tm_3 (List.mem_of_getElem? (i := 167) (by decide +kernel))), (tm_1 (List.mem_of_getElem? (i := 31) (by decide +kernel))), (tm_1 (List.mem_of_getElem? (i := 32) (by decide +kernel)))⟩
theorem lfX5_7 : za_fl RX5 7 6 0 (.object "FeedTower$Part") 1 := ⟨_, _, _, "FeedTower$Piece", tyX5, rfl, by decide, (tm_3 (List.mem_of_getElem? (i := 168) (by decide +kernel))), Or.inl rfl, uwX5, tyX5_ok, nmX5, rfl, (fun h => by cases h), fun _ => ⟨rfl, rfl⟩⟩
theorem lfX5_13 : za_fl RX5 13 6 1 (.int) 1 := ⟨_, _, _, "FeedTower$Piece", tyX5, rfl, by decide, (tm_3 (List.mem_of_getElem? (i := 170) (by decide +kernel))), Or.inl rfl, uwX5, tyX5_ok, nmX5, rfl, (fun h => by cases h), fun _ => ⟨rfl, rfl⟩⟩
theorem lfX5_17 : za_fl RX5 17 6 2 (.int) 1 := ⟨_, _, _, "FeedTower$Piece", tyX5, rfl, by decide, (tm_3 (List.mem_of_getElem? (i := 172) (by decide +kernel))), Or.inl rfl, uwX5, tyX5_ok, nmX5, rfl, (fun h => by cases h), fun _ => ⟨rfl, rfl⟩⟩
theorem lfX5_20 : za_fl RX5 20 6 3 (.int) 1 := ⟨_, _, _, "FeedTower$Piece", tyX5, rfl, by decide, (tm_3 (List.mem_of_getElem? (i := 174) (by decide +kernel))), Or.inl rfl, uwX5, tyX5_ok, nmX5, rfl, (fun h => by cases h), fun _ => ⟨rfl, rfl⟩⟩
theorem lfX5_23 : za_fl RX5 23 6 4 (.int) 1 := ⟨_, _, _, "FeedTower$Piece", tyX5, rfl, by decide, (tm_3 (List.mem_of_getElem? (i := 176) (by decide +kernel))), Or.inl rfl, uwX5, tyX5_ok, nmX5, rfl, (fun h => by cases h), fun _ => ⟨rfl, rfl⟩⟩
def flX5 : List (Nat × (Nat × Nat × FieldType × Nat)) := [(7, (6, 0, .object "FeedTower$Part", 1)), (13, (6, 1, .int, 1)), (17, (6, 2, .int, 1)), (20, (6, 3, .int, 1)), (23, (6, 4, .int, 1))]
def mtX5 : List (Nat × (Nat × Nat × Nat × Nat × za_M)) := [(1, (4, 0, 0, 0, mX7_isIn))]
def nwX5 : List (Nat × (Nat × List Value)) := []
def thX5 : List (Nat × (Nat × Nat)) := []
def ckX5 : List (Nat × Nat) := []
def lkX5 : za_LK := (za_lu flX5, za_lu mtX5, za_lu nwX5, za_lu thX5, (fun i => ([] : List Nat).elem i), za_lu ckX5)
theorem okX5 : za_lk RX5 lkX5 := ⟨za_lu_ok (l := flX5) (Q := fun i q => za_fl RX5 i q.1 q.2.1 q.2.2.1 q.2.2.2) (za_cons lfX5_7 (za_cons lfX5_13 (za_cons lfX5_17 (za_cons lfX5_20 (za_cons lfX5_23 za_nil))))), za_lu_ok (l := mtX5) (Q := za_okm RX5) (za_cons lmX5_1 za_nil), za_lu_ok (l := nwX5) (Q := fun i q => za_nl RX5 i q.1 q.2) za_nil, fun i q j h hj => za_lu_ok (l := thX5) (Q := fun i q => ∀ j, ([] : List Nat).elem j = true → za_tl RX5 i j q.2 q.1) za_nil i q h j hj, za_lu_ok (l := ckX5) (Q := fun i ci => ∃ r, vwCl[ci]? = some r ∧ Jvm.Cond.classLink RX5 i r.1 ∈ lw_tbl) za_nil⟩
theorem uX5_f7 : za_LK.fl lkX5 7 = some (6, 0, .object "FeedTower$Part", 1) := rfl
theorem uX5_f13 : za_LK.fl lkX5 13 = some (6, 1, .int, 1) := rfl
theorem uX5_f17 : za_LK.fl lkX5 17 = some (6, 2, .int, 1) := rfl
theorem uX5_f20 : za_LK.fl lkX5 20 = some (6, 3, .int, 1) := rfl
theorem uX5_f23 : za_LK.fl lkX5 23 = some (6, 4, .int, 1) := rfl
theorem uX5_m1 : za_LK.mt lkX5 1 = some (4, 0, 0, 0, mX7_isIn) := rfl
theorem lmX6_1 : za_okm RX6 1 (4, 0, 0, 0, mX7_isIn) := ⟨rfl, (tm_3 (List.mem_of_getElem? (i := 229) (by decide +kernel))), (tm_1 (List.mem_of_getElem? (i := 31) (by decide +kernel))), (tm_1 (List.mem_of_getElem? (i := 32) (by decide +kernel)))⟩
theorem lfX6_7 : za_fl RX6 7 7 0 (.int) 1 := ⟨_, _, _, "FeedTower$Range", tyX6, rfl, by decide, (tm_3 (List.mem_of_getElem? (i := 230) (by decide +kernel))), Or.inl rfl, uwX6, tyX6_ok, nmX6, rfl, (fun h => by cases h), fun _ => ⟨rfl, rfl⟩⟩
theorem lfX6_13 : za_fl RX6 13 7 1 (.int) 1 := ⟨_, _, _, "FeedTower$Range", tyX6, rfl, by decide, (tm_3 (List.mem_of_getElem? (i := 232) (by decide +kernel))), Or.inl rfl, uwX6, tyX6_ok, nmX6, rfl, (fun h => by cases h), fun _ => ⟨rfl, rfl⟩⟩
def flX6 : List (Nat × (Nat × Nat × FieldType × Nat)) := [(7, (7, 0, .int, 1)), (13, (7, 1, .int, 1))]
def mtX6 : List (Nat × (Nat × Nat × Nat × Nat × za_M)) := [(1, (4, 0, 0, 0, mX7_isIn))]
def nwX6 : List (Nat × (Nat × List Value)) := []
def thX6 : List (Nat × (Nat × Nat)) := []
def ckX6 : List (Nat × Nat) := []
def lkX6 : za_LK := (za_lu flX6, za_lu mtX6, za_lu nwX6, za_lu thX6, (fun i => ([] : List Nat).elem i), za_lu ckX6)
theorem okX6 : za_lk RX6 lkX6 := ⟨za_lu_ok (l := flX6) (Q := fun i q => za_fl RX6 i q.1 q.2.1 q.2.2.1 q.2.2.2) (za_cons lfX6_7 (za_cons lfX6_13 za_nil)), za_lu_ok (l := mtX6) (Q := za_okm RX6) (za_cons lmX6_1 za_nil), za_lu_ok (l := nwX6) (Q := fun i q => za_nl RX6 i q.1 q.2) za_nil, fun i q j h hj => za_lu_ok (l := thX6) (Q := fun i q => ∀ j, ([] : List Nat).elem j = true → za_tl RX6 i j q.2 q.1) za_nil i q h j hj, za_lu_ok (l := ckX6) (Q := fun i ci => ∃ r, vwCl[ci]? = some r ∧ Jvm.Cond.classLink RX6 i r.1 ∈ lw_tbl) za_nil⟩
theorem uX6_f7 : za_LK.fl lkX6 7 = some (7, 0, .int, 1) := rfl
theorem uX6_f13 : za_LK.fl lkX6 13 = some (7, 1, .int, 1) := rfl
theorem uX6_m1 : za_LK.mt lkX6 1 = some (4, 0, 0, 0, mX7_isIn) := rfl
