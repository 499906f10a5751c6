theorem cok_0 : za_cok 0 := ⟨_, rfl, (tm_6 (List.mem_of_getElem? (i := 59) (by decide +kernel)))⟩
theorem cok_1 : za_cok 1 := ⟨_, rfl, (tm_6 (List.mem_of_getElem? (i := 66) (by decide +kernel)))⟩
theorem cok_2 : za_cok 2 := ⟨_, rfl, (tm_6 (List.mem_of_getElem? (i := 67) (by decide +kernel)))⟩
theorem cok_3 : za_cok 3 := ⟨_, rfl, (tm_6 (List.mem_of_getElem? (i := 68) (by decide +kernel)))⟩
theorem cok_4 : za_cok 4 := ⟨_, rfl, (tm_6 (List.mem_of_getElem? (i := 65) (by decide +kernel)))⟩
theorem cok_5 : za_cok 5 := ⟨_, rfl, (tm_6 (List.mem_of_getElem? (i := 62) (by decide +kernel)))⟩
theorem cok_6 : za_cok 6 := ⟨_, rfl, (tm_6 (List.mem_of_getElem? (i := 69) (by decide +kernel)))⟩
theorem cok_7 : za_cok 7 := ⟨_, rfl, (tm_6 (List.mem_of_getElem? (i := 70) (by decide +kernel)))⟩
theorem cok_8 : za_cok 8 := ⟨_, rfl, (tm_6 (List.mem_of_getElem? (i := 58) (by decide +kernel)))⟩
theorem cok_9 : za_cok 9 := ⟨_, rfl, (tm_6 (List.mem_of_getElem? (i := 60) (by decide +kernel)))⟩
theorem zi_im1 : Int32.ofInt (-1) = (-1) := by decide +kernel
theorem zi_i0 : Int32.ofInt (0) = nI 0 := by decide +kernel
theorem zi_i1 : Int32.ofInt (1) = nI 1 := by decide +kernel
theorem zi_i2 : Int32.ofInt (2) = nI 2 := by decide +kernel
theorem zi_i3 : Int32.ofInt (3) = nI 3 := by decide +kernel
theorem zi_i4 : Int32.ofInt (4) = nI 4 := by decide +kernel
theorem zi_i5 : Int32.ofInt (5) = nI 5 := by decide +kernel
theorem zi_i8 : Int32.ofInt (8) = nI 8 := by decide +kernel
theorem zi_bm24 : (Int8.ofInt (-24)).toInt32 = (-24) := by decide +kernel
theorem zi_b6 : (Int8.ofInt (6)).toInt32 = nI 6 := by decide +kernel
theorem zi_b7 : (Int8.ofInt (7)).toInt32 = nI 7 := by decide +kernel
theorem zi_b8 : (Int8.ofInt (8)).toInt32 = nI 8 := by decide +kernel
theorem zi_b9 : (Int8.ofInt (9)).toInt32 = nI 9 := by decide +kernel
theorem zi_b10 : (Int8.ofInt (10)).toInt32 = nI 10 := by decide +kernel
theorem zi_b23 : (Int8.ofInt (23)).toInt32 = nI 23 := by decide +kernel
theorem zi_b24 : (Int8.ofInt (24)).toInt32 = nI 24 := by decide +kernel
theorem zi_b31 : (Int8.ofInt (31)).toInt32 = nI 31 := by decide +kernel
theorem zi_b60 : (Int8.ofInt (60)).toInt32 = nI 60 := by decide +kernel
theorem zi_b99 : (Int8.ofInt (99)).toInt32 = nI 99 := by decide +kernel
theorem zi_s144 : (Int16.ofInt (144)).toInt32 = nI 144 := by decide +kernel
theorem zi_s200 : (Int16.ofInt (200)).toInt32 = nI 200 := by decide +kernel
theorem zi_s240 : (Int16.ofInt (240)).toInt32 = nI 240 := by decide +kernel
theorem zi_s300 : (Int16.ofInt (300)).toInt32 = nI 300 := by decide +kernel
theorem zi_s600 : (Int16.ofInt (600)).toInt32 = nI 600 := by decide +kernel
theorem zi_s800 : (Int16.ofInt (800)).toInt32 = nI 800 := by decide +kernel
theorem zi_s999 : (Int16.ofInt (999)).toInt32 = nI 999 := by decide +kernel
theorem zi_s1000 : (Int16.ofInt (1000)).toInt32 = nI 1000 := by decide +kernel
theorem zi_s2400 : (Int16.ofInt (2400)).toInt32 = nI 2400 := by decide +kernel
theorem zi_s9998 : (Int16.ofInt (9998)).toInt32 = nI 9998 := by decide +kernel
theorem zi_s9999 : (Int16.ofInt (9999)).toInt32 = nI 9999 := by decide +kernel
theorem zi_s10000 : (Int16.ofInt (10000)).toInt32 = nI 10000 := by decide +kernel
