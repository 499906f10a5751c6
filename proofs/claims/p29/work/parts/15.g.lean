theorem cok_0 : za_cok 0 := ⟨_, rfl, (tm_3 (List.mem_of_getElem? (i := 27) (by decide +kernel)))⟩
theorem cok_1 : za_cok 1 := ⟨_, rfl, (tm_3 (List.mem_of_getElem? (i := 30) (by decide +kernel)))⟩
theorem cok_2 : za_cok 2 := ⟨_, rfl, (tm_3 (List.mem_of_getElem? (i := 33) (by decide +kernel)))⟩
theorem cok_3 : za_cok 3 := ⟨_, rfl, (tm_3 (List.mem_of_getElem? (i := 32) (by decide +kernel)))⟩
theorem cok_4 : za_cok 4 := ⟨_, rfl, (tm_3 (List.mem_of_getElem? (i := 26) (by decide +kernel)))⟩
theorem zi_im1 : Int32.ofInt (-1) = (-1) := by decide +kernel
theorem zi_i0 : Int32.ofInt (0) = nI 0 := by decide +kernel
theorem zi_i1 : Int32.ofInt (1) = nI 1 := by decide +kernel
theorem zi_i2 : Int32.ofInt (2) = nI 2 := by decide +kernel
theorem zi_i3 : Int32.ofInt (3) = nI 3 := by decide +kernel
theorem zi_i4 : Int32.ofInt (4) = nI 4 := by decide +kernel
theorem zi_i5 : Int32.ofInt (5) = nI 5 := by decide +kernel
theorem zi_b6 : (Int8.ofInt (6)).toInt32 = nI 6 := by decide +kernel
theorem zi_b7 : (Int8.ofInt (7)).toInt32 = nI 7 := by decide +kernel
theorem zi_b8 : (Int8.ofInt (8)).toInt32 = nI 8 := by decide +kernel
theorem zi_b10 : (Int8.ofInt (10)).toInt32 = nI 10 := by decide +kernel
theorem zi_b11 : (Int8.ofInt (11)).toInt32 = nI 11 := by decide +kernel
theorem zi_b16 : (Int8.ofInt (16)).toInt32 = nI 16 := by decide +kernel
theorem zi_b24 : (Int8.ofInt (24)).toInt32 = nI 24 := by decide +kernel
theorem zi_b48 : (Int8.ofInt (48)).toInt32 = nI 48 := by decide +kernel
theorem zi_b50 : (Int8.ofInt (50)).toInt32 = nI 50 := by decide +kernel
theorem zi_s300 : (Int16.ofInt (300)).toInt32 = nI 300 := by decide +kernel
theorem zi_s512 : (Int16.ofInt (512)).toInt32 = nI 512 := by decide +kernel
theorem zi_s999 : (Int16.ofInt (999)).toInt32 = nI 999 := by decide +kernel
theorem zi_s4096 : (Int16.ofInt (4096)).toInt32 = nI 4096 := by decide +kernel
theorem zi_s9999 : (Int16.ofInt (9999)).toInt32 = nI 9999 := by decide +kernel
