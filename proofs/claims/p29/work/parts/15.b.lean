def flJ9 : List (Nat × (Nat × Nat × FieldType × Nat)) := []
def mtJ9 : List (Nat × (Nat × Nat × Nat × Nat × za_M)) := []
def nwJ9 : List (Nat × (Nat × List Value)) := []
def thJ9 : List (Nat × (Nat × Nat)) := []
def ckJ9 : List (Nat × Nat) := []
def cnJ9 : List (Nat × Int32) := []
def lkJ9 : za_LK := (za_lu flJ9, za_lu mtJ9, za_lu nwJ9, za_lu thJ9, (fun i => ([] : List Nat).elem i), za_lu ckJ9, za_lu cnJ9)
theorem okJ9 : za_lk RJ9 lkJ9 := ⟨za_lu_ok (l := flJ9) (Q := fun i q => za_fl RJ9 i q.1 q.2.1 q.2.2.1 q.2.2.2) za_nil, za_lu_ok (l := mtJ9) (Q := za_okm RJ9) za_nil, za_lu_ok (l := nwJ9) (Q := fun i q => za_nl RJ9 i q.1 q.2) za_nil, fun i q j h hj => za_lu_ok (l := thJ9) (Q := fun i q => ∀ j, ([] : List Nat).elem j = true → za_tl RJ9 i j q.2 q.1) za_nil i q h j hj, za_lu_ok (l := ckJ9) (Q := fun i ci => ∃ r, vwCl[ci]? = some r ∧ Jvm.Cond.classLink RJ9 i r.1 ∈ lw_tbl) za_nil, za_lu_ok (l := cnJ9) (Q := fun i v => Jvm.Cond.constant RJ9 i v ∈ lw_tbl) za_nil⟩
theorem lmJxa1e45_1 : za_okm RJxa1e45 1 (4, 0, 0, 0, mX7_isIn) := ⟨rfl, (tm_1 (List.mem_of_getElem? (i := 39) (by decide +kernel))), (tm_1 (List.mem_of_getElem? (i := 26) (by decide +kernel))), (tm_1 (List.mem_of_getElem? (i := 27) (by decide +kernel)))⟩
def flJxa1e45 : List (Nat × (Nat × Nat × FieldType × Nat)) := []
def mtJxa1e45 : List (Nat × (Nat × Nat × Nat × Nat × za_M)) := [(1, (4, 0, 0, 0, mX7_isIn))]
def nwJxa1e45 : List (Nat × (Nat × List Value)) := []
def thJxa1e45 : List (Nat × (Nat × Nat)) := []
def ckJxa1e45 : List (Nat × Nat) := []
def cnJxa1e45 : List (Nat × Int32) := []
def lkJxa1e45 : za_LK := (za_lu flJxa1e45, za_lu mtJxa1e45, za_lu nwJxa1e45, za_lu thJxa1e45, (fun i => ([] : List Nat).elem i), za_lu ckJxa1e45, za_lu cnJxa1e45)
theorem okJxa1e45 : za_lk RJxa1e45 lkJxa1e45 := ⟨za_lu_ok (l := flJxa1e45) (Q := fun i q => za_fl RJxa1e45 i q.1 q.2.1 q.2.2.1 q.2.2.2) za_nil, za_lu_ok (l := mtJxa1e45) (Q := za_okm RJxa1e45) (za_cons lmJxa1e45_1 za_nil), za_lu_ok (l := nwJxa1e45) (Q := fun i q => za_nl RJxa1e45 i q.1 q.2) za_nil, fun i q j h hj => za_lu_ok (l := thJxa1e45) (Q := fun i q => ∀ j, ([] : List Nat).elem j = true → za_tl RJxa1e45 i j q.2 q.1) za_nil i q h j hj, za_lu_ok (l := ckJxa1e45) (Q := fun i ci => ∃ r, vwCl[ci]? = some r ∧ Jvm.Cond.classLink RJxa1e45 i r.1 ∈ lw_tbl) za_nil, za_lu_ok (l := cnJxa1e45) (Q := fun i v => Jvm.Cond.constant RJxa1e45 i v ∈ lw_tbl) za_nil⟩
theorem uJxa1e45_m1 : za_LK.mt lkJxa1e45 1 = some (4, 0, 0, 0, mX7_isIn) := rfl
theorem lmJxc12de_1 : za_okm RJxc12de 1 (2, 0, 0, 1, mJxa1e45_init_da8c8) := ⟨rfl, mkJxa1e45_init_da8c8, rfl, rfl, rfl, (tm_1 (List.mem_of_getElem? (i := 36) (by decide +kernel))), (tm_1 (List.mem_of_getElem? (i := 37) (by decide +kernel)))⟩
theorem lfJxc12de_7 : za_fl RJxc12de 7 0 0 (.int) 0 := ⟨_, _, _, "java/util/AbstractList", tyJx4a65c, rfl, by decide, (tm_1 (List.mem_of_getElem? (i := 44) (by decide +kernel))), Or.inl rfl, uwJx4a65c, tyJx4a65c_ok, nmJx4a65c, rfl, fun _ => rfl, fun h => by cases h⟩
def flJxc12de : List (Nat × (Nat × Nat × FieldType × Nat)) := [(7, (0, 0, .int, 0))]
def mtJxc12de : List (Nat × (Nat × Nat × Nat × Nat × za_M)) := [(1, (2, 0, 0, 1, mJxa1e45_init_da8c8))]
def nwJxc12de : List (Nat × (Nat × List Value)) := []
def thJxc12de : List (Nat × (Nat × Nat)) := []
def ckJxc12de : List (Nat × Nat) := []
def cnJxc12de : List (Nat × Int32) := []
def lkJxc12de : za_LK := (za_lu flJxc12de, za_lu mtJxc12de, za_lu nwJxc12de, za_lu thJxc12de, (fun i => ([] : List Nat).elem i), za_lu ckJxc12de, za_lu cnJxc12de)
theorem okJxc12de : za_lk RJxc12de lkJxc12de := ⟨za_lu_ok (l := flJxc12de) (Q := fun i q => za_fl RJxc12de i q.1 q.2.1 q.2.2.1 q.2.2.2) (za_cons lfJxc12de_7 za_nil), za_lu_ok (l := mtJxc12de) (Q := za_okm RJxc12de) (za_cons lmJxc12de_1 za_nil), za_lu_ok (l := nwJxc12de) (Q := fun i q => za_nl RJxc12de i q.1 q.2) za_nil, fun i q j h hj => za_lu_ok (l := thJxc12de) (Q := fun i q => ∀ j, ([] : List Nat).elem j = true → za_tl RJxc12de i j q.2 q.1) za_nil i q h j hj, za_lu_ok (l := ckJxc12de) (Q := fun i ci => ∃ r, vwCl[ci]? = some r ∧ Jvm.Cond.classLink RJxc12de i r.1 ∈ lw_tbl) za_nil, za_lu_ok (l := cnJxc12de) (Q := fun i v => Jvm.Cond.constant RJxc12de i v ∈ lw_tbl) za_nil⟩
theorem uJxc12de_f7 : za_LK.fl lkJxc12de 7 = some (0, 0, .int, 0) := rfl
theorem uJxc12de_m1 : za_LK.mt lkJxc12de 1 = some (2, 0, 0, 1, mJxa1e45_init_da8c8) := rfl
theorem lmJx4a65c_1 : za_okm RJx4a65c 1 (2, 0, 0, 2, mJxc12de_init_da8c8) := ⟨rfl, mkJxc12de_init_da8c8, rfl, rfl, rfl, (tm_1 (List.mem_of_getElem? (i := 33) (by decide +kernel))), (tm_1 (List.mem_of_getElem? (i := 34) (by decide +kernel)))⟩
theorem lfJx4a65c_9 : za_fl RJx4a65c 9 0 1 (.array (.object "java/lang/Object")) 0 := ⟨_, _, _, "java/util/ArrayList", tyJx4a65c, rfl, by decide, (tm_1 (List.mem_of_getElem? (i := 42) (by decide +kernel))), Or.inl rfl, uwJx4a65c, tyJx4a65c_ok, nmJx4a65c, rfl, fun _ => rfl, fun h => by cases h⟩
theorem lfJx4a65c_48 : za_fl RJx4a65c 48 0 2 (.int) 0 := ⟨_, _, _, "java/util/ArrayList", tyJx4a65c, rfl, by decide, (tm_1 (List.mem_of_getElem? (i := 43) (by decide +kernel))), Or.inl rfl, uwJx4a65c, tyJx4a65c_ok, nmJx4a65c, rfl, fun _ => rfl, fun h => by cases h⟩
theorem lfJx4a65c_63 : za_fl RJx4a65c 63 0 0 (.int) 0 := ⟨_, _, _, "java/util/ArrayList", tyJx4a65c, rfl, by decide, (tm_1 (List.mem_of_getElem? (i := 45) (by decide +kernel))), Or.inr (tm_1 (List.mem_of_getElem? (i := 46) (by decide +kernel))), uwJx4a65c, tyJx4a65c_ok, nmJx4a65c, rfl, fun _ => rfl, fun h => by cases h⟩
theorem lmJx4a65c_66 : za_okm RJx4a65c 66 (1, 2, 0, 2, mJ7_copyOf_1904c) := ⟨rfl, mkJ7_copyOf_1904c, (tm_2 (List.mem_of_getElem? (i := 38) (by decide +kernel))), (tm_2 (List.mem_of_getElem? (i := 39) (by decide +kernel)))⟩
theorem lmJx4a65c_69 : za_okm RJx4a65c 69 (0, 1, 0, 3, mJx4a65c_grow_92f84) := ⟨rfl, ⟨mkJx4a65c_grow_92f84, rfl, (tm_2 (List.mem_of_getElem? (i := 24) (by decide +kernel))), (tm_2 (List.mem_of_getElem? (i := 26) (by decide +kernel))), (List.mem_of_getElem? (i := 5) (by decide +kernel))⟩, _, rfl, rfl⟩
theorem lmJx4a65c_73 : za_okm RJx4a65c 73 (1, 3, 0, 1, mJ8_newLength_cabcc) := ⟨rfl, mkJ8_newLength_cabcc, (tm_2 (List.mem_of_getElem? (i := 28) (by decide +kernel))), (tm_2 (List.mem_of_getElem? (i := 29) (by decide +kernel)))⟩
theorem lmJx4a65c_79 : za_okm RJx4a65c 79 (5, 2, 0, 0, mX7_isIn) := ⟨rfl, (tm_2 (List.mem_of_getElem? (i := 65) (by decide +kernel))), (tm_2 (List.mem_of_getElem? (i := 32) (by decide +kernel))), (tm_1 (List.mem_of_getElem? (i := 12) (by decide +kernel))), (tm_2 (List.mem_of_getElem? (i := 33) (by decide +kernel)))⟩
theorem lmJx4a65c_118 : za_okm RJx4a65c 118 (1, 2, 0, 1, mJ15_checkIndex_7cf53) := ⟨rfl, mkJ15_checkIndex_7cf53, (tm_1 (List.mem_of_getElem? (i := 191) (by decide +kernel))), (tm_1 (List.mem_of_getElem? (i := 192) (by decide +kernel)))⟩
theorem lmJx4a65c_123 : za_okm RJx4a65c 123 (0, 1, 0, 0, mJx4a65c_elementData_915e3) := ⟨rfl, ⟨mkJx4a65c_elementData_915e3, rfl, (tm_1 (List.mem_of_getElem? (i := 197) (by decide +kernel))), (tm_1 (List.mem_of_getElem? (i := 198) (by decide +kernel))), (tm_1 (List.mem_of_getElem? (i := 199) (by decide +kernel)))⟩, _, rfl, rfl⟩
theorem lmJx4a65c_129 : za_okm RJx4a65c 129 (0, 0, 0, 4, mJx4a65c_grow_d5877) := ⟨rfl, ⟨mkJx4a65c_grow_d5877, rfl, (tm_2 (List.mem_of_getElem? (i := 20) (by decide +kernel))), (tm_2 (List.mem_of_getElem? (i := 22) (by decide +kernel))), (List.mem_of_getElem? (i := 4) (by decide +kernel))⟩, _, rfl, rfl⟩
theorem lmJx4a65c_131 : za_okm RJx4a65c 131 (0, 3, 0, 5, mJx4a65c_add_72be8) := ⟨rfl, ⟨mkJx4a65c_add_72be8, rfl, (tm_2 (List.mem_of_getElem? (i := 16) (by decide +kernel))), (tm_2 (List.mem_of_getElem? (i := 18) (by decide +kernel))), (List.mem_of_getElem? (i := 3) (by decide +kernel))⟩, _, rfl, rfl⟩
def flJx4a65c : List (Nat × (Nat × Nat × FieldType × Nat)) := [(9, (0, 1, .array (.object "java/lang/Object"), 0)), (48, (0, 2, .int, 0)), (63, (0, 0, .int, 0))]
def mtJx4a65c : List (Nat × (Nat × Nat × Nat × Nat × za_M)) := [(1, (2, 0, 0, 2, mJxc12de_init_da8c8)), (66, (1, 2, 0, 2, mJ7_copyOf_1904c)), (69, (0, 1, 0, 3, mJx4a65c_grow_92f84)), (73, (1, 3, 0, 1, mJ8_newLength_cabcc)), (79, (5, 2, 0, 0, mX7_isIn)), (118, (1, 2, 0, 1, mJ15_checkIndex_7cf53)), (123, (0, 1, 0, 0, mJx4a65c_elementData_915e3)), (129, (0, 0, 0, 4, mJx4a65c_grow_d5877)), (131, (0, 3, 0, 5, mJx4a65c_add_72be8))]
def nwJx4a65c : List (Nat × (Nat × List Value)) := []
def thJx4a65c : List (Nat × (Nat × Nat)) := []
def ckJx4a65c : List (Nat × Nat) := []
def cnJx4a65c : List (Nat × Int32) := []
def lkJx4a65c : za_LK := (za_lu flJx4a65c, za_lu mtJx4a65c, za_lu nwJx4a65c, za_lu thJx4a65c, (fun i => ([] : List Nat).elem i), za_lu ckJx4a65c, za_lu cnJx4a65c)
theorem okJx4a65c : za_lk RJx4a65c lkJx4a65c := ⟨za_lu_ok (l := flJx4a65c) (Q := fun i q => za_fl RJx4a65c i q.1 q.2.1 q.2.2.1 q.2.2.2) (za_cons lfJx4a65c_9 (za_cons lfJx4a65c_48 (za_cons lfJx4a65c_63 za_nil))), za_lu_ok (l := mtJx4a65c) (Q := za_okm RJx4a65c) (za_cons lmJx4a65c_1 (za_cons lmJx4a65c_66 (za_cons lmJx4a65c_69 (za_cons lmJx4a65c_73 (za_cons lmJx4a65c_79 (za_cons lmJx4a65c_118 (za_cons lmJx4a65c_123 (za_cons lmJx4a65c_129 (za_cons lmJx4a65c_131 za_nil))))))))), za_lu_ok (l := nwJx4a65c) (Q := fun i q => za_nl RJx4a65c i q.1 q.2) za_nil, fun i q j h hj => za_lu_ok (l := thJx4a65c) (Q := fun i q => ∀ j, ([] : List Nat).elem j = true → za_tl RJx4a65c i j q.2 q.1) za_nil i q h j hj, za_lu_ok (l := ckJx4a65c) (Q := fun i ci => ∃ r, vwCl[ci]? = some r ∧ Jvm.Cond.classLink RJx4a65c i r.1 ∈ lw_tbl) za_nil, za_lu_ok (l := cnJx4a65c) (Q := fun i v => Jvm.Cond.constant RJx4a65c i v ∈ lw_tbl) za_nil⟩
theorem uJx4a65c_f9 : za_LK.fl lkJx4a65c 9 = some (0, 1, .array (.object "java/lang/Object"), 0) := rfl
theorem uJx4a65c_f48 : za_LK.fl lkJx4a65c 48 = some (0, 2, .int, 0) := rfl
theorem uJx4a65c_f63 : za_LK.fl lkJx4a65c 63 = some (0, 0, .int, 0) := rfl
theorem uJx4a65c_m1 : za_LK.mt lkJx4a65c 1 = some (2, 0, 0, 2, mJxc12de_init_da8c8) := rfl
theorem uJx4a65c_m66 : za_LK.mt lkJx4a65c 66 = some (1, 2, 0, 2, mJ7_copyOf_1904c) := rfl
theorem uJx4a65c_m69 : za_LK.mt lkJx4a65c 69 = some (0, 1, 0, 3, mJx4a65c_grow_92f84) := rfl
theorem uJx4a65c_m73 : za_LK.mt lkJx4a65c 73 = some (1, 3, 0, 1, mJ8_newLength_cabcc) := rfl
theorem uJx4a65c_m79 : za_LK.mt lkJx4a65c 79 = some (5, 2, 0, 0, mX7_isIn) := rfl
theorem uJx4a65c_m118 : za_LK.mt lkJx4a65c 118 = some (1, 2, 0, 1, mJ15_checkIndex_7cf53) := rfl
theorem uJx4a65c_m123 : za_LK.mt lkJx4a65c 123 = some (0, 1, 0, 0, mJx4a65c_elementData_915e3) := rfl
theorem uJx4a65c_m129 : za_LK.mt lkJx4a65c 129 = some (0, 0, 0, 4, mJx4a65c_grow_d5877) := rfl
theorem uJx4a65c_m131 : za_LK.mt lkJx4a65c 131 = some (0, 3, 0, 5, mJx4a65c_add_72be8) := rfl
theorem lmJ7_300 : za_okm RJ7 300 (1, 3, 0, 1, mJ7_copyOf_6403c) := ⟨rfl, mkJ7_copyOf_6403c, (tm_2 (List.mem_of_getElem? (i := 53) (by decide +kernel))), (tm_2 (List.mem_of_getElem? (i := 54) (by decide +kernel)))⟩
theorem lmJ7_304 : za_okm RJ7 304 (6, 2, 0, 0, mX7_isIn) := ⟨rfl, (tm_2 (List.mem_of_getElem? (i := 59) (by decide +kernel))), (tm_2 (List.mem_of_getElem? (i := 60) (by decide +kernel))), (tm_1 (List.mem_of_getElem? (i := 12) (by decide +kernel))), (tm_2 (List.mem_of_getElem? (i := 61) (by decide +kernel)))⟩
def flJ7 : List (Nat × (Nat × Nat × FieldType × Nat)) := []
def mtJ7 : List (Nat × (Nat × Nat × Nat × Nat × za_M)) := [(300, (1, 3, 0, 1, mJ7_copyOf_6403c)), (304, (6, 2, 0, 0, mX7_isIn))]
def nwJ7 : List (Nat × (Nat × List Value)) := []
def thJ7 : List (Nat × (Nat × Nat)) := []
def ckJ7 : List (Nat × Nat) := []
def cnJ7 : List (Nat × Int32) := []
def lkJ7 : za_LK := (za_lu flJ7, za_lu mtJ7, za_lu nwJ7, za_lu thJ7, (fun i => ([] : List Nat).elem i), za_lu ckJ7, za_lu cnJ7)
theorem okJ7 : za_lk RJ7 lkJ7 := ⟨za_lu_ok (l := flJ7) (Q := fun i q => za_fl RJ7 i q.1 q.2.1 q.2.2.1 q.2.2.2) za_nil, za_lu_ok (l := mtJ7) (Q := za_okm RJ7) (za_cons lmJ7_300 (za_cons lmJ7_304 za_nil)), za_lu_ok (l := nwJ7) (Q := fun i q => za_nl RJ7 i q.1 q.2) za_nil, fun i q j h hj => za_lu_ok (l := thJ7) (Q := fun i q => ∀ j, ([] : List Nat).elem j = true → za_tl RJ7 i j q.2 q.1) za_nil i q h j hj, za_lu_ok (l := ckJ7) (Q := fun i ci => ∃ r, vwCl[ci]? = some r ∧ Jvm.Cond.classLink RJ7 i r.1 ∈ lw_tbl) za_nil, za_lu_ok (l := cnJ7) (Q := fun i v => Jvm.Cond.constant RJ7 i v ∈ lw_tbl) za_nil⟩
theorem uJ7_m300 : za_LK.mt lkJ7 300 = some (1, 3, 0, 1, mJ7_copyOf_6403c) := rfl
theorem uJ7_m304 : za_LK.mt lkJ7 304 = some (6, 2, 0, 0, mX7_isIn) := rfl
theorem lmJ15_105 : za_okm RJ15 105 (1, 3, 0, 0, mJ3_checkIndex_8e157) := ⟨rfl, mkJ3_checkIndex_8e157, (tm_1 (List.mem_of_getElem? (i := 194) (by decide +kernel))), (tm_1 (List.mem_of_getElem? (i := 195) (by decide +kernel)))⟩
def flJ15 : List (Nat × (Nat × Nat × FieldType × Nat)) := []
def mtJ15 : List (Nat × (Nat × Nat × Nat × Nat × za_M)) := [(105, (1, 3, 0, 0, mJ3_checkIndex_8e157))]
def nwJ15 : List (Nat × (Nat × List Value)) := []
def thJ15 : List (Nat × (Nat × Nat)) := []
def ckJ15 : List (Nat × Nat) := []
def cnJ15 : List (Nat × Int32) := []
def lkJ15 : za_LK := (za_lu flJ15, za_lu mtJ15, za_lu nwJ15, za_lu thJ15, (fun i => ([] : List Nat).elem i), za_lu ckJ15, za_lu cnJ15)
theorem okJ15 : za_lk RJ15 lkJ15 := ⟨za_lu_ok (l := flJ15) (Q := fun i q => za_fl RJ15 i q.1 q.2.1 q.2.2.1 q.2.2.2) za_nil, za_lu_ok (l := mtJ15) (Q := za_okm RJ15) (za_cons lmJ15_105 za_nil), za_lu_ok (l := nwJ15) (Q := fun i q => za_nl RJ15 i q.1 q.2) za_nil, fun i q j h hj => za_lu_ok (l := thJ15) (Q := fun i q => ∀ j, ([] : List Nat).elem j = true → za_tl RJ15 i j q.2 q.1) za_nil i q h j hj, za_lu_ok (l := ckJ15) (Q := fun i ci => ∃ r, vwCl[ci]? = some r ∧ Jvm.Cond.classLink RJ15 i r.1 ∈ lw_tbl) za_nil, za_lu_ok (l := cnJ15) (Q := fun i v => Jvm.Cond.constant RJ15 i v ∈ lw_tbl) za_nil⟩
theorem uJ15_m105 : za_LK.mt lkJ15 105 = some (1, 3, 0, 0, mJ3_checkIndex_8e157) := rfl
theorem lmJ8_194 : za_okm RJ8 194 (5, 2, 0, 0, mX7_isIn) := ⟨rfl, (tm_2 (List.mem_of_getElem? (i := 31) (by decide +kernel))), (tm_2 (List.mem_of_getElem? (i := 32) (by decide +kernel))), (tm_1 (List.mem_of_getElem? (i := 12) (by decide +kernel))), (tm_2 (List.mem_of_getElem? (i := 33) (by decide +kernel)))⟩
theorem lmJ8_201 : za_okm RJ8 201 (1, 2, 0, 0, mJ8_hugeLength_7cf53) := ⟨rfl, mkJ8_hugeLength_7cf53, (tm_2 (List.mem_of_getElem? (i := 35) (by decide +kernel))), (tm_2 (List.mem_of_getElem? (i := 36) (by decide +kernel)))⟩
def flJ8 : List (Nat × (Nat × Nat × FieldType × Nat)) := []
def mtJ8 : List (Nat × (Nat × Nat × Nat × Nat × za_M)) := [(194, (5, 2, 0, 0, mX7_isIn)), (201, (1, 2, 0, 0, mJ8_hugeLength_7cf53))]
def nwJ8 : List (Nat × (Nat × List Value)) := []
def thJ8 : List (Nat × (Nat × Nat)) := []
def ckJ8 : List (Nat × Nat) := []
def cnJ8 : List (Nat × Int32) := [(200, 2147483639)]
def lkJ8 : za_LK := (za_lu flJ8, za_lu mtJ8, za_lu nwJ8, za_lu thJ8, (fun i => ([] : List Nat).elem i), za_lu ckJ8, za_lu cnJ8)
theorem okJ8 : za_lk RJ8 lkJ8 := ⟨za_lu_ok (l := flJ8) (Q := fun i q => za_fl RJ8 i q.1 q.2.1 q.2.2.1 q.2.2.2) za_nil, za_lu_ok (l := mtJ8) (Q := za_okm RJ8) (za_cons lmJ8_194 (za_cons lmJ8_201 za_nil)), za_lu_ok (l := nwJ8) (Q := fun i q => za_nl RJ8 i q.1 q.2) za_nil, fun i q j h hj => za_lu_ok (l := thJ8) (Q := fun i q => ∀ j, ([] : List Nat).elem j = true → za_tl RJ8 i j q.2 q.1) za_nil i q h j hj, za_lu_ok (l := ckJ8) (Q := fun i ci => ∃ r, vwCl[ci]? = some r ∧ Jvm.Cond.classLink RJ8 i r.1 ∈ lw_tbl) za_nil, za_lu_ok (l := cnJ8) (Q := fun i v => Jvm.Cond.constant RJ8 i v ∈ lw_tbl) (za_cons (tm_2 (List.mem_of_getElem? (i := 34) (by decide +kernel))) za_nil)⟩
theorem uJ8_m194 : za_LK.mt lkJ8 194 = some (5, 2, 0, 0, mX7_isIn) := rfl
theorem uJ8_m201 : za_LK.mt lkJ8 201 = some (1, 2, 0, 0, mJ8_hugeLength_7cf53) := rfl
theorem uJ8_k200 : za_LK.cn lkJ8 200 = some 2147483639 := rfl
def flJ3 : List (Nat × (Nat × Nat × FieldType × Nat)) := []
def mtJ3 : List (Nat × (Nat × Nat × Nat × Nat × za_M)) := []
def nwJ3 : List (Nat × (Nat × List Value)) := []
def thJ3 : List (Nat × (Nat × Nat)) := []
def ckJ3 : List (Nat × Nat) := []
def cnJ3 : List (Nat × Int32) := []
def lkJ3 : za_LK := (za_lu flJ3, za_lu mtJ3, za_lu nwJ3, za_lu thJ3, (fun i => ([] : List Nat).elem i), za_lu ckJ3, za_lu cnJ3)
theorem okJ3 : za_lk RJ3 lkJ3 := ⟨za_lu_ok (l := flJ3) (Q := fun i q => za_fl RJ3 i q.1 q.2.1 q.2.2.1 q.2.2.2) za_nil, za_lu_ok (l := mtJ3) (Q := za_okm RJ3) za_nil, za_lu_ok (l := nwJ3) (Q := fun i q => za_nl RJ3 i q.1 q.2) za_nil, fun i q j h hj => za_lu_ok (l := thJ3) (Q := fun i q => ∀ j, ([] : List Nat).elem j = true → za_tl RJ3 i j q.2 q.1) za_nil i q h j hj, za_lu_ok (l := ckJ3) (Q := fun i ci => ∃ r, vwCl[ci]? = some r ∧ Jvm.Cond.classLink RJ3 i r.1 ∈ lw_tbl) za_nil, za_lu_ok (l := cnJ3) (Q := fun i v => Jvm.Cond.constant RJ3 i v ∈ lw_tbl) za_nil⟩
