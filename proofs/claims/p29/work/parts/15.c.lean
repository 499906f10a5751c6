theorem lmX0_1 : za_okm RX0 1 (4, 0, 0, 0, mX7_isIn) := ⟨rfl, (tm_2 (List.mem_of_getElem? (i := 116) (by decide +kernel))), (tm_1 (List.mem_of_getElem? (i := 26) (by decide +kernel))), (tm_1 (List.mem_of_getElem? (i := 27) (by decide +kernel)))⟩
theorem lnX0_7 : za_nl RX0 7 0 [.int (nI 0), .null, .int (nI 0)] := ⟨_, _, _, tyJx4a65c, rfl, (tm_2 (List.mem_of_getElem? (i := 117) (by decide +kernel))), (tm_1 (List.mem_of_getElem? (i := 29) (by decide +kernel))), (tm_1 (List.mem_of_getElem? (i := 4) (by decide +kernel))), uwJx4a65c, tyJx4a65c_ok, rfl, by decide +kernel⟩
theorem lmX0_9 : za_okm RX0 9 (2, 0, 0, 3, mJx4a65c_init_da8c8) := ⟨rfl, mkJx4a65c_init_da8c8, rfl, rfl, rfl, (tm_2 (List.mem_of_getElem? (i := 118) (by decide +kernel))), (tm_1 (List.mem_of_getElem? (i := 31) (by decide +kernel)))⟩
theorem lfX0_10 : za_fl RX0 10 1 1 (.object "java/util/ArrayList") 1 := ⟨_, _, _, "FeedTower$App", tyX0, rfl, by decide, (tm_2 (List.mem_of_getElem? (i := 121) (by decide +kernel))), Or.inl rfl, uwX0, tyX0_ok, nmX0, rfl, (fun h => by cases h), fun _ => ⟨rfl, rfl⟩⟩
theorem lfX0_16 : za_fl RX0 16 1 2 (.int) 0 := ⟨_, _, _, "FeedTower$App", tyX0, rfl, by decide, (tm_2 (List.mem_of_getElem? (i := 123) (by decide +kernel))), Or.inl rfl, uwX0, tyX0_ok, nmX0, rfl, fun _ => rfl, fun h => by cases h⟩
theorem lfX0_20 : za_fl RX0 20 1 0 (.int) 1 := ⟨_, _, _, "FeedTower$App", tyX0, rfl, by decide, (tm_2 (List.mem_of_getElem? (i := 119) (by decide +kernel))), Or.inl rfl, uwX0, tyX0_ok, nmX0, rfl, (fun h => by cases h), fun _ => ⟨rfl, rfl⟩⟩
def flX0 : List (Nat × (Nat × Nat × FieldType × Nat)) := [(10, (1, 1, .object "java/util/ArrayList", 1)), (16, (1, 2, .int, 0)), (20, (1, 0, .int, 1))]
def mtX0 : List (Nat × (Nat × Nat × Nat × Nat × za_M)) := [(1, (4, 0, 0, 0, mX7_isIn)), (9, (2, 0, 0, 3, mJx4a65c_init_da8c8))]
def nwX0 : List (Nat × (Nat × List Value)) := [(7, (0, [.int (nI 0), .null, .int (nI 0)]))]
def thX0 : List (Nat × (Nat × Nat)) := []
def ckX0 : List (Nat × Nat) := []
def cnX0 : List (Nat × Int32) := []
def lkX0 : za_LK := (za_lu flX0, za_lu mtX0, za_lu nwX0, za_lu thX0, (fun i => ([] : List Nat).elem i), za_lu ckX0, za_lu cnX0)
theorem okX0 : za_lk RX0 lkX0 := ⟨za_lu_ok (l := flX0) (Q := fun i q => za_fl RX0 i q.1 q.2.1 q.2.2.1 q.2.2.2) (za_cons lfX0_10 (za_cons lfX0_16 (za_cons lfX0_20 za_nil))), za_lu_ok (l := mtX0) (Q := za_okm RX0) (za_cons lmX0_1 (za_cons lmX0_9 za_nil)), za_lu_ok (l := nwX0) (Q := fun i q => za_nl RX0 i q.1 q.2) (za_cons lnX0_7 za_nil), fun i q j h hj => za_lu_ok (l := thX0) (Q := fun i q => ∀ j, ([] : List Nat).elem j = true → za_tl RX0 i j q.2 q.1) za_nil i q h j hj, za_lu_ok (l := ckX0) (Q := fun i ci => ∃ r, vwCl[ci]? = some r ∧ Jvm.Cond.classLink RX0 i r.1 ∈ lw_tbl) za_nil, za_lu_ok (l := cnX0) (Q := fun i v => Jvm.Cond.constant RX0 i v ∈ lw_tbl) za_nil⟩
theorem uX0_f10 : za_LK.fl lkX0 10 = some (1, 1, .object "java/util/ArrayList", 1) := rfl
theorem uX0_f16 : za_LK.fl lkX0 16 = some (1, 2, .int, 0) := rfl
theorem uX0_f20 : za_LK.fl lkX0 20 = some (1, 0, .int, 1) := rfl
theorem uX0_m1 : za_LK.mt lkX0 1 = some (4, 0, 0, 0, mX7_isIn) := rfl
theorem uX0_m9 : za_LK.mt lkX0 9 = some (2, 0, 0, 3, mJx4a65c_init_da8c8) := rfl
theorem uX0_n7 : za_LK.nw lkX0 7 = some (0, [.int (nI 0), .null, .int (nI 0)]) := rfl
theorem lmX3_1 : za_okm RX3 1 (4, 0, 0, 0, mX7_isIn) := ⟨rfl, (tm_1 (List.mem_of_getElem? (i := 230) (by decide +kernel))), (tm_1 (List.mem_of_getElem? (i := 26) (by decide +kernel))), (tm_1 (List.mem_of_getElem? (i := 27) (by decide +kernel)))⟩
theorem lfX3_7 : za_fl RX3 7 2 4 (.boolean) 0 := ⟨_, _, _, "FeedTower$Item", tyX3, rfl, by decide, (tm_1 (List.mem_of_getElem? (i := 239) (by decide +kernel))), Or.inl rfl, uwX3, tyX3_ok, nmX3, rfl, fun _ => rfl, fun h => by cases h⟩
theorem lfX3_13 : za_fl RX3 13 2 0 (.int) 1 := ⟨_, _, _, "FeedTower$Item", tyX3, rfl, by decide, (tm_1 (List.mem_of_getElem? (i := 231) (by decide +kernel))), Or.inl rfl, uwX3, tyX3_ok, nmX3, rfl, (fun h => by cases h), fun _ => ⟨rfl, rfl⟩⟩
theorem lfX3_17 : za_fl RX3 17 2 1 (.int) 1 := ⟨_, _, _, "FeedTower$Item", tyX3, rfl, by decide, (tm_1 (List.mem_of_getElem? (i := 233) (by decide +kernel))), Or.inl rfl, uwX3, tyX3_ok, nmX3, rfl, (fun h => by cases h), fun _ => ⟨rfl, rfl⟩⟩
theorem lfX3_20 : za_fl RX3 20 2 2 (.int) 1 := ⟨_, _, _, "FeedTower$Item", tyX3, rfl, by decide, (tm_1 (List.mem_of_getElem? (i := 235) (by decide +kernel))), Or.inl rfl, uwX3, tyX3_ok, nmX3, rfl, (fun h => by cases h), fun _ => ⟨rfl, rfl⟩⟩
theorem lfX3_23 : za_fl RX3 23 2 3 (.object "java/util/ArrayList") 1 := ⟨_, _, _, "FeedTower$Item", tyX3, rfl, by decide, (tm_1 (List.mem_of_getElem? (i := 237) (by decide +kernel))), Or.inl rfl, uwX3, tyX3_ok, nmX3, rfl, (fun h => by cases h), fun _ => ⟨rfl, rfl⟩⟩
theorem lmX3_27 : za_okm RX3 27 (0, 0, 0, 0, mJx4a65c_size_8abf5) := ⟨rfl, ⟨mkJx4a65c_size_8abf5, rfl, (tm_2 (List.mem_of_getElem? (i := 75) (by decide +kernel))), (tm_1 (List.mem_of_getElem? (i := 184) (by decide +kernel))), (tm_1 (List.mem_of_getElem? (i := 185) (by decide +kernel)))⟩, _, rfl, rfl⟩
theorem lmX3_40 : za_okm RX3 40 (0, 1, 0, 2, mJx4a65c_get_915e3) := ⟨rfl, ⟨mkJx4a65c_get_915e3, rfl, (tm_2 (List.mem_of_getElem? (i := 76) (by decide +kernel))), (tm_1 (List.mem_of_getElem? (i := 188) (by decide +kernel))), (tm_1 (List.mem_of_getElem? (i := 189) (by decide +kernel)))⟩, _, rfl, rfl⟩
theorem lfX3_46 : za_fl RX3 46 3 3 (.boolean) 0 := ⟨_, _, _, "FeedTower$Part", tyX4, rfl, by decide, (tm_2 (List.mem_of_getElem? (i := 204) (by decide +kernel))), Or.inl rfl, uwX4, tyX4_ok, nmX4, rfl, fun _ => rfl, fun h => by cases h⟩
theorem lfX3_49 : za_fl RX3 49 3 1 (.int) 2 := ⟨_, _, _, "FeedTower$Part", tyX4, rfl, by decide, (tm_2 (List.mem_of_getElem? (i := 199) (by decide +kernel))), Or.inl rfl, uwX4, tyX4_ok, nmX4, rfl, (fun h => by cases h), fun h => by cases h⟩
theorem ltX3_33 : ∀ j ∈ ([35] : List Nat), za_tl RX3 33 j 37 2 := by
  intro j hj
  refine ⟨Or.inr rfl, by decide, ?_, (tm_3 (List.mem_of_getElem? (i := 8) (by decide +kernel))), (tm_1 (List.mem_of_getElem? (i := 8) (by decide +kernel))), by decide +kernel, by decide +kernel, by decide +kernel⟩
  rcases List.mem_cons.mp hj with rfl | hj
  · exact ⟨"there is no such part of the item", (tm_3 (List.mem_of_getElem? (i := 9) (by decide +kernel)))⟩
  cases hj
def flX3 : List (Nat × (Nat × Nat × FieldType × Nat)) := [(7, (2, 4, .boolean, 0)), (13, (2, 0, .int, 1)), (17, (2, 1, .int, 1)), (20, (2, 2, .int, 1)), (23, (2, 3, .object "java/util/ArrayList", 1)), (46, (3, 3, .boolean, 0)), (49, (3, 1, .int, 2))]
def mtX3 : List (Nat × (Nat × Nat × Nat × Nat × za_M)) := [(1, (4, 0, 0, 0, mX7_isIn)), (27, (0, 0, 0, 0, mJx4a65c_size_8abf5)), (40, (0, 1, 0, 2, mJx4a65c_get_915e3))]
def nwX3 : List (Nat × (Nat × List Value)) := []
def thX3 : List (Nat × (Nat × Nat)) := [(33, (2, 37))]
def ckX3 : List (Nat × Nat) := [(44, 3)]
def cnX3 : List (Nat × Int32) := []
def lkX3 : za_LK := (za_lu flX3, za_lu mtX3, za_lu nwX3, za_lu thX3, (fun i => ([35] : List Nat).elem i), za_lu ckX3, za_lu cnX3)
theorem okX3 : za_lk RX3 lkX3 := ⟨za_lu_ok (l := flX3) (Q := fun i q => za_fl RX3 i q.1 q.2.1 q.2.2.1 q.2.2.2) (za_cons lfX3_7 (za_cons lfX3_13 (za_cons lfX3_17 (za_cons lfX3_20 (za_cons lfX3_23 (za_cons lfX3_46 (za_cons lfX3_49 za_nil))))))), za_lu_ok (l := mtX3) (Q := za_okm RX3) (za_cons lmX3_1 (za_cons lmX3_27 (za_cons lmX3_40 za_nil))), za_lu_ok (l := nwX3) (Q := fun i q => za_nl RX3 i q.1 q.2) za_nil, fun i q j h hj => za_lu_ok (l := thX3) (Q := fun i q => ∀ j, ([35] : List Nat).elem j = true → za_tl RX3 i j q.2 q.1) (za_cons (fun j hj => ltX3_33 j (List.elem_iff.mp hj)) za_nil) i q h j hj, za_lu_ok (l := ckX3) (Q := fun i ci => ∃ r, vwCl[ci]? = some r ∧ Jvm.Cond.classLink RX3 i r.1 ∈ lw_tbl) (za_cons ⟨_, rfl, (tm_2 (List.mem_of_getElem? (i := 77) (by decide +kernel)))⟩ za_nil), za_lu_ok (l := cnX3) (Q := fun i v => Jvm.Cond.constant RX3 i v ∈ lw_tbl) za_nil⟩
theorem uX3_f7 : za_LK.fl lkX3 7 = some (2, 4, .boolean, 0) := rfl
theorem uX3_f13 : za_LK.fl lkX3 13 = some (2, 0, .int, 1) := rfl
theorem uX3_f17 : za_LK.fl lkX3 17 = some (2, 1, .int, 1) := rfl
theorem uX3_f20 : za_LK.fl lkX3 20 = some (2, 2, .int, 1) := rfl
theorem uX3_f23 : za_LK.fl lkX3 23 = some (2, 3, .object "java/util/ArrayList", 1) := rfl
theorem uX3_f46 : za_LK.fl lkX3 46 = some (3, 3, .boolean, 0) := rfl
theorem uX3_f49 : za_LK.fl lkX3 49 = some (3, 1, .int, 2) := rfl
theorem uX3_m1 : za_LK.mt lkX3 1 = some (4, 0, 0, 0, mX7_isIn) := rfl
theorem uX3_m27 : za_LK.mt lkX3 27 = some (0, 0, 0, 0, mJx4a65c_size_8abf5) := rfl
theorem uX3_m40 : za_LK.mt lkX3 40 = some (0, 1, 0, 2, mJx4a65c_get_915e3) := rfl
theorem uX3_n33 : za_LK.nw lkX3 33 = none := rfl
theorem uX3_t33 : za_LK.th lkX3 33 = some (2, 37) := rfl
theorem uX3_s35 : za_LK.sx lkX3 35 = true := rfl
theorem uX3_c44 : za_LK.ck lkX3 44 = some 3 := rfl
theorem lmX4_1 : za_okm RX4 1 (4, 0, 0, 0, mX7_isIn) := ⟨rfl, (tm_2 (List.mem_of_getElem? (i := 195) (by decide +kernel))), (tm_1 (List.mem_of_getElem? (i := 26) (by decide +kernel))), (tm_1 (List.mem_of_getElem? (i := 27) (by decide +kernel)))⟩
theorem lfX4_7 : za_fl RX4 7 3 3 (.boolean) 0 := ⟨_, _, _, "FeedTower$Part", tyX4, rfl, by decide, (tm_2 (List.mem_of_getElem? (i := 203) (by decide +kernel))), Or.inl rfl, uwX4, tyX4_ok, nmX4, rfl, fun _ => rfl, fun h => by cases h⟩
theorem lfX4_13 : za_fl RX4 13 3 4 (.int) 0 := ⟨_, _, _, "FeedTower$Part", tyX4, rfl, by decide, (tm_2 (List.mem_of_getElem? (i := 206) (by decide +kernel))), Or.inl rfl, uwX4, tyX4_ok, nmX4, rfl, fun _ => rfl, fun h => by cases h⟩
theorem lfX4_17 : za_fl RX4 17 3 0 (.int) 1 := ⟨_, _, _, "FeedTower$Part", tyX4, rfl, by decide, (tm_2 (List.mem_of_getElem? (i := 196) (by decide +kernel))), Or.inl rfl, uwX4, tyX4_ok, nmX4, rfl, (fun h => by cases h), fun _ => ⟨rfl, rfl⟩⟩
theorem lfX4_20 : za_fl RX4 20 3 1 (.int) 1 := ⟨_, _, _, "FeedTower$Part", tyX4, rfl, by decide, (tm_2 (List.mem_of_getElem? (i := 198) (by decide +kernel))), Or.inl rfl, uwX4, tyX4_ok, nmX4, rfl, (fun h => by cases h), fun _ => ⟨rfl, rfl⟩⟩
theorem lfX4_23 : za_fl RX4 23 3 2 (.int) 1 := ⟨_, _, _, "FeedTower$Part", tyX4, rfl, by decide, (tm_2 (List.mem_of_getElem? (i := 201) (by decide +kernel))), Or.inl rfl, uwX4, tyX4_ok, nmX4, rfl, (fun h => by cases h), fun _ => ⟨rfl, rfl⟩⟩
def flX4 : List (Nat × (Nat × Nat × FieldType × Nat)) := [(7, (3, 3, .boolean, 0)), (13, (3, 4, .int, 0)), (17, (3, 0, .int, 1)), (20, (3, 1, .int, 1)), (23, (3, 2, .int, 1))]
def mtX4 : List (Nat × (Nat × Nat × Nat × Nat × za_M)) := [(1, (4, 0, 0, 0, mX7_isIn))]
def nwX4 : List (Nat × (Nat × List Value)) := []
def thX4 : List (Nat × (Nat × Nat)) := []
def ckX4 : List (Nat × Nat) := []
def cnX4 : List (Nat × Int32) := []
def lkX4 : za_LK := (za_lu flX4, za_lu mtX4, za_lu nwX4, za_lu thX4, (fun i => ([] : List Nat).elem i), za_lu ckX4, za_lu cnX4)
theorem okX4 : za_lk RX4 lkX4 := ⟨za_lu_ok (l := flX4) (Q := fun i q => za_fl RX4 i q.1 q.2.1 q.2.2.1 q.2.2.2) (za_cons lfX4_7 (za_cons lfX4_13 (za_cons lfX4_17 (za_cons lfX4_20 (za_cons lfX4_23 za_nil))))), za_lu_ok (l := mtX4) (Q := za_okm RX4) (za_cons lmX4_1 za_nil), za_lu_ok (l := nwX4) (Q := fun i q => za_nl RX4 i q.1 q.2) za_nil, fun i q j h hj => za_lu_ok (l := thX4) (Q := fun i q => ∀ j, ([] : List Nat).elem j = true → za_tl RX4 i j q.2 q.1) za_nil i q h j hj, za_lu_ok (l := ckX4) (Q := fun i ci => ∃ r, vwCl[ci]? = some r ∧ Jvm.Cond.classLink RX4 i r.1 ∈ lw_tbl) za_nil, za_lu_ok (l := cnX4) (Q := fun i v => Jvm.Cond.constant RX4 i v ∈ lw_tbl) za_nil⟩
theorem uX4_f7 : za_LK.fl lkX4 7 = some (3, 3, .boolean, 0) := rfl
theorem uX4_f13 : za_LK.fl lkX4 13 = some (3, 4, .int, 0) := rfl
theorem uX4_f17 : za_LK.fl lkX4 17 = some (3, 0, .int, 1) := rfl
theorem uX4_f20 : za_LK.fl lkX4 20 = some (3, 1, .int, 1) := rfl
theorem uX4_f23 : za_LK.fl lkX4 23 = some (3, 2, .int, 1) := rfl
theorem uX4_m1 : za_LK.mt lkX4 1 = some (4, 0, 0, 0, mX7_isIn) := rfl
