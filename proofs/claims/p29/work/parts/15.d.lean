theorem lmX7_1 : za_okm RX7 1 (4, 0, 0, 0, mX7_isIn) := ⟨rfl, (tm_1 (List.mem_of_getElem? (i := 25) (by decide +kernel))), (tm_1 (List.mem_of_getElem? (i := 26) (by decide +kernel))), (tm_1 (List.mem_of_getElem? (i := 27) (by decide +kernel)))⟩
theorem lnX7_7 : za_nl RX7 7 0 [.int (nI 0), .null, .int (nI 0)] := ⟨_, _, _, tyJx4a65c, rfl, (tm_1 (List.mem_of_getElem? (i := 28) (by decide +kernel))), (tm_1 (List.mem_of_getElem? (i := 29) (by decide +kernel))), (tm_1 (List.mem_of_getElem? (i := 4) (by decide +kernel))), uwJx4a65c, tyJx4a65c_ok, rfl, by decide +kernel⟩
theorem lmX7_9 : za_okm RX7 9 (2, 0, 0, 3, mJx4a65c_init_da8c8) := ⟨rfl, mkJx4a65c_init_da8c8, rfl, rfl, rfl, (tm_1 (List.mem_of_getElem? (i := 30) (by decide +kernel))), (tm_1 (List.mem_of_getElem? (i := 31) (by decide +kernel)))⟩
theorem lfX7_10 : za_fl RX7 10 4 0 (.object "java/util/ArrayList") 1 := ⟨_, _, _, "FeedTower", tyX7, rfl, by decide, (tm_1 (List.mem_of_getElem? (i := 54) (by decide +kernel))), Or.inl rfl, uwX7, tyX7_ok, nmX7, rfl, (fun h => by cases h), fun _ => ⟨rfl, rfl⟩⟩
theorem lfX7_16 : za_fl RX7 16 4 1 (.object "java/util/ArrayList") 1 := ⟨_, _, _, "FeedTower", tyX7, rfl, by decide, (tm_1 (List.mem_of_getElem? (i := 55) (by decide +kernel))), Or.inl rfl, uwX7, tyX7_ok, nmX7, rfl, (fun h => by cases h), fun _ => ⟨rfl, rfl⟩⟩
theorem lfX7_19 : za_fl RX7 19 4 2 (.object "java/util/ArrayList") 1 := ⟨_, _, _, "FeedTower", tyX7, rfl, by decide, (tm_1 (List.mem_of_getElem? (i := 56) (by decide +kernel))), Or.inl rfl, uwX7, tyX7_ok, nmX7, rfl, (fun h => by cases h), fun _ => ⟨rfl, rfl⟩⟩
theorem lfX7_22 : za_fl RX7 22 4 3 (.object "java/util/ArrayList") 1 := ⟨_, _, _, "FeedTower", tyX7, rfl, by decide, (tm_1 (List.mem_of_getElem? (i := 57) (by decide +kernel))), Or.inl rfl, uwX7, tyX7_ok, nmX7, rfl, (fun h => by cases h), fun _ => ⟨rfl, rfl⟩⟩
theorem lfX7_25 : za_fl RX7 25 4 4 (.object "java/util/ArrayList") 1 := ⟨_, _, _, "FeedTower", tyX7, rfl, by decide, (tm_1 (List.mem_of_getElem? (i := 58) (by decide +kernel))), Or.inl rfl, uwX7, tyX7_ok, nmX7, rfl, (fun h => by cases h), fun _ => ⟨rfl, rfl⟩⟩
theorem lfX7_28 : za_fl RX7 28 4 5 (.object "java/util/ArrayList") 0 := ⟨_, _, _, "FeedTower", tyX7, rfl, by decide, (tm_1 (List.mem_of_getElem? (i := 59) (by decide +kernel))), Or.inl rfl, uwX7, tyX7_ok, nmX7, rfl, fun _ => rfl, fun h => by cases h⟩
theorem lfX7_31 : za_fl RX7 31 4 6 (.int) 0 := ⟨_, _, _, "FeedTower", tyX7, rfl, by decide, (tm_1 (List.mem_of_getElem? (i := 60) (by decide +kernel))), Or.inl rfl, uwX7, tyX7_ok, nmX7, rfl, fun _ => rfl, fun h => by cases h⟩
theorem lfX7_35 : za_fl RX7 35 4 7 (.int) 0 := ⟨_, _, _, "FeedTower", tyX7, rfl, by decide, (tm_1 (List.mem_of_getElem? (i := 61) (by decide +kernel))), Or.inl rfl, uwX7, tyX7_ok, nmX7, rfl, fun _ => rfl, fun h => by cases h⟩
theorem lfX7_38 : za_fl RX7 38 4 8 (.int) 0 := ⟨_, _, _, "FeedTower", tyX7, rfl, by decide, (tm_1 (List.mem_of_getElem? (i := 62) (by decide +kernel))), Or.inl rfl, uwX7, tyX7_ok, nmX7, rfl, fun _ => rfl, fun h => by cases h⟩
theorem lfX7_41 : za_fl RX7 41 4 9 (.int) 0 := ⟨_, _, _, "FeedTower", tyX7, rfl, by decide, (tm_1 (List.mem_of_getElem? (i := 63) (by decide +kernel))), Or.inl rfl, uwX7, tyX7_ok, nmX7, rfl, fun _ => rfl, fun h => by cases h⟩
theorem lmX7_44 : za_okm RX7 44 (1, 3, 0, 0, mX7_isIn) := ⟨rfl, mkX7_isIn, (tm_1 (List.mem_of_getElem? (i := 160) (by decide +kernel))), (tm_1 (List.mem_of_getElem? (i := 161) (by decide +kernel)))⟩
theorem lnX7_55 : za_nl RX7 55 3 [.int (nI 0), .int (nI 0), .int (nI 0), .int (nI 0), .int (nI 0)] := ⟨_, _, _, tyX4, rfl, (tm_1 (List.mem_of_getElem? (i := 201) (by decide +kernel))), (tm_2 (List.mem_of_getElem? (i := 191) (by decide +kernel))), (tm_1 (List.mem_of_getElem? (i := 18) (by decide +kernel))), uwX4, tyX4_ok, rfl, by decide +kernel⟩
theorem lmX7_57 : za_okm RX7 57 (2, 3, 0, 1, mX4_init) := ⟨rfl, mkX4_init, rfl, rfl, rfl, (tm_2 (List.mem_of_getElem? (i := 192) (by decide +kernel))), (tm_2 (List.mem_of_getElem? (i := 193) (by decide +kernel)))⟩
theorem lmX7_60 : za_okm RX7 60 (0, 1, 4, 7, mX7_addToDraft) := ⟨rfl, ⟨mkX7_addToDraft, rfl, (tm_2 (List.mem_of_getElem? (i := 218) (by decide +kernel))), (tm_2 (List.mem_of_getElem? (i := 220) (by decide +kernel))), (List.mem_of_getElem? (i := 13) (by decide +kernel))⟩, _, rfl, rfl⟩
theorem lmX7_64 : za_okm RX7 64 (1, 1, 0, 6, mX7_needSong) := ⟨rfl, mkX7_needSong, (tm_2 (List.mem_of_getElem? (i := 227) (by decide +kernel))), (tm_2 (List.mem_of_getElem? (i := 228) (by decide +kernel)))⟩
theorem lmX7_68 : za_okm RX7 68 (1, 2, 0, 0, mX7_hasBit) := ⟨rfl, mkX7_hasBit, (tm_1 (List.mem_of_getElem? (i := 206) (by decide +kernel))), (tm_1 (List.mem_of_getElem? (i := 207) (by decide +kernel)))⟩
theorem lmX7_79 : za_okm RX7 79 (1, 1, 0, 6, mX7_needShow) := ⟨rfl, mkX7_needShow, (tm_1 (List.mem_of_getElem? (i := 89) (by decide +kernel))), (tm_1 (List.mem_of_getElem? (i := 90) (by decide +kernel)))⟩
theorem lmX7_84 : za_okm RX7 84 (0, 0, 4, 3, mX7_isDraftOfUse) := ⟨rfl, ⟨mkX7_isDraftOfUse, rfl, (tm_1 (List.mem_of_getElem? (i := 179) (by decide +kernel))), (tm_1 (List.mem_of_getElem? (i := 181) (by decide +kernel))), (List.mem_of_getElem? (i := 1) (by decide +kernel))⟩, _, rfl, rfl⟩
theorem lmX7_88 : za_okm RX7 88 (0, 0, 0, 0, mJx4a65c_size_8abf5) := ⟨rfl, ⟨mkJx4a65c_size_8abf5, rfl, (tm_1 (List.mem_of_getElem? (i := 183) (by decide +kernel))), (tm_1 (List.mem_of_getElem? (i := 184) (by decide +kernel))), (tm_1 (List.mem_of_getElem? (i := 185) (by decide +kernel)))⟩, _, rfl, rfl⟩
theorem lnX7_94 : za_nl RX7 94 2 [.int (nI 0), .int (nI 0), .int (nI 0), .null, .int (nI 0)] := ⟨_, _, _, tyX3, rfl, (tm_1 (List.mem_of_getElem? (i := 225) (by decide +kernel))), (tm_1 (List.mem_of_getElem? (i := 226) (by decide +kernel))), (tm_1 (List.mem_of_getElem? (i := 19) (by decide +kernel))), uwX3, tyX3_ok, rfl, by decide +kernel⟩
theorem lmX7_96 : za_okm RX7 96 (2, 4, 0, 1, mX3_init) := ⟨rfl, mkX3_init, rfl, rfl, rfl, (tm_1 (List.mem_of_getElem? (i := 227) (by decide +kernel))), (tm_1 (List.mem_of_getElem? (i := 228) (by decide +kernel)))⟩
theorem lmX7_99 : za_okm RX7 99 (0, 1, 0, 6, mJx4a65c_add_9ea2d) := ⟨rfl, ⟨mkJx4a65c_add_9ea2d, rfl, (tm_2 (List.mem_of_getElem? (i := 12) (by decide +kernel))), (tm_2 (List.mem_of_getElem? (i := 13) (by decide +kernel))), (tm_2 (List.mem_of_getElem? (i := 14) (by decide +kernel)))⟩, _, rfl, rfl⟩
theorem lmX7_103 : za_okm RX7 103 (0, 1, 4, 4, mX7_cutWhatIsOut) := ⟨rfl, ⟨mkX7_cutWhatIsOut, rfl, (tm_2 (List.mem_of_getElem? (i := 67) (by decide +kernel))), (tm_2 (List.mem_of_getElem? (i := 69) (by decide +kernel))), (List.mem_of_getElem? (i := 6) (by decide +kernel))⟩, _, rfl, rfl⟩
theorem lmX7_107 : za_okm RX7 107 (0, 1, 4, 7, mX7_noteChange) := ⟨rfl, ⟨mkX7_noteChange, rfl, (tm_2 (List.mem_of_getElem? (i := 78) (by decide +kernel))), (tm_2 (List.mem_of_getElem? (i := 80) (by decide +kernel))), (List.mem_of_getElem? (i := 7) (by decide +kernel))⟩, _, rfl, rfl⟩
theorem lfX7_111 : za_fl RX7 111 2 0 (.int) 2 := ⟨_, _, _, "FeedTower$Item", tyX3, rfl, by decide, (tm_1 (List.mem_of_getElem? (i := 232) (by decide +kernel))), Or.inl rfl, uwX3, tyX3_ok, nmX3, rfl, (fun h => by cases h), fun h => by cases h⟩
theorem lmX7_114 : za_okm RX7 114 (0, 1, 4, 6, mX7_itemAt) := ⟨rfl, ⟨mkX7_itemAt, rfl, (tm_2 (List.mem_of_getElem? (i := 90) (by decide +kernel))), (tm_2 (List.mem_of_getElem? (i := 92) (by decide +kernel))), (List.mem_of_getElem? (i := 9) (by decide +kernel))⟩, _, rfl, rfl⟩
theorem lmX7_118 : za_okm RX7 118 (0, 1, 2, 6, mX3_partAt) := ⟨rfl, ⟨mkX3_partAt, rfl, (tm_3 (List.mem_of_getElem? (i := 4) (by decide +kernel))), (tm_3 (List.mem_of_getElem? (i := 5) (by decide +kernel))), (tm_3 (List.mem_of_getElem? (i := 6) (by decide +kernel)))⟩, _, rfl, rfl⟩
theorem lmX7_122 : za_okm RX7 122 (0, 0, 2, 3, mX3_uncutParts) := ⟨rfl, ⟨mkX3_uncutParts, rfl, (tm_2 (List.mem_of_getElem? (i := 71) (by decide +kernel))), (tm_2 (List.mem_of_getElem? (i := 72) (by decide +kernel))), (tm_2 (List.mem_of_getElem? (i := 73) (by decide +kernel)))⟩, _, rfl, rfl⟩
theorem lfX7_125 : za_fl RX7 125 3 3 (.boolean) 0 := ⟨_, _, _, "FeedTower$Part", tyX4, rfl, by decide, (tm_2 (List.mem_of_getElem? (i := 205) (by decide +kernel))), Or.inl rfl, uwX4, tyX4_ok, nmX4, rfl, fun _ => rfl, fun h => by cases h⟩
theorem lfX7_129 : za_fl RX7 129 2 4 (.boolean) 0 := ⟨_, _, _, "FeedTower$Item", tyX3, rfl, by decide, (tm_2 (List.mem_of_getElem? (i := 0) (by decide +kernel))), Or.inl rfl, uwX3, tyX3_ok, nmX3, rfl, fun _ => rfl, fun h => by cases h⟩
theorem lmX7_136 : za_okm RX7 136 (1, 2, 0, 0, mX7_withBit) := ⟨rfl, mkX7_withBit, (tm_2 (List.mem_of_getElem? (i := 146) (by decide +kernel))), (tm_2 (List.mem_of_getElem? (i := 147) (by decide +kernel)))⟩
theorem lmX7_140 : za_okm RX7 140 (0, 1, 0, 2, mJx4a65c_get_915e3) := ⟨rfl, ⟨mkJx4a65c_get_915e3, rfl, (tm_1 (List.mem_of_getElem? (i := 187) (by decide +kernel))), (tm_1 (List.mem_of_getElem? (i := 188) (by decide +kernel))), (tm_1 (List.mem_of_getElem? (i := 189) (by decide +kernel)))⟩, _, rfl, rfl⟩
theorem lmX7_148 : za_okm RX7 148 (0, 0, 4, 7, mX7_releaseItemsOfThisHour) := ⟨rfl, ⟨mkX7_releaseItemsOfThisHour, rfl, (tm_2 (List.mem_of_getElem? (i := 102) (by decide +kernel))), (tm_2 (List.mem_of_getElem? (i := 104) (by decide +kernel))), (List.mem_of_getElem? (i := 10) (by decide +kernel))⟩, _, rfl, rfl⟩
theorem lnX7_153 : za_nl RX7 153 1 [.int (nI 0), .null, .int (nI 0)] := ⟨_, _, _, tyX0, rfl, (tm_2 (List.mem_of_getElem? (i := 111) (by decide +kernel))), (tm_2 (List.mem_of_getElem? (i := 112) (by decide +kernel))), (tm_1 (List.mem_of_getElem? (i := 10) (by decide +kernel))), uwX0, tyX0_ok, rfl, by decide +kernel⟩
theorem lmX7_155 : za_okm RX7 155 (2, 1, 0, 4, mX0_init) := ⟨rfl, mkX0_init, rfl, rfl, rfl, (tm_2 (List.mem_of_getElem? (i := 113) (by decide +kernel))), (tm_2 (List.mem_of_getElem? (i := 114) (by decide +kernel)))⟩
theorem lmX7_157 : za_okm RX7 157 (0, 1, 4, 6, mX7_appAt) := ⟨rfl, ⟨mkX7_appAt, rfl, (tm_2 (List.mem_of_getElem? (i := 136) (by decide +kernel))), (tm_2 (List.mem_of_getElem? (i := 138) (by decide +kernel))), (List.mem_of_getElem? (i := 11) (by decide +kernel))⟩, _, rfl, rfl⟩
theorem lfX7_161 : za_fl RX7 161 1 1 (.object "java/util/ArrayList") 2 := ⟨_, _, _, "FeedTower$App", tyX0, rfl, by decide, (tm_2 (List.mem_of_getElem? (i := 122) (by decide +kernel))), Or.inl rfl, uwX0, tyX0_ok, nmX0, rfl, (fun h => by cases h), fun h => by cases h⟩
theorem lmX7_164 : za_okm RX7 164 (0, 0, 0, 0, mJx4a65c_clear_da8c8) := ⟨rfl, ⟨mkJx4a65c_clear_da8c8, rfl, (tm_2 (List.mem_of_getElem? (i := 141) (by decide +kernel))), (tm_2 (List.mem_of_getElem? (i := 142) (by decide +kernel))), (tm_2 (List.mem_of_getElem? (i := 143) (by decide +kernel)))⟩, _, rfl, rfl⟩
theorem lfX7_167 : za_fl RX7 167 1 2 (.int) 0 := ⟨_, _, _, "FeedTower$App", tyX0, rfl, by decide, (tm_2 (List.mem_of_getElem? (i := 124) (by decide +kernel))), Or.inl rfl, uwX0, tyX0_ok, nmX0, rfl, fun _ => rfl, fun h => by cases h⟩
theorem lmX7_170 : za_okm RX7 170 (5, 2, 0, 0, mX7_isIn) := ⟨rfl, (tm_2 (List.mem_of_getElem? (i := 145) (by decide +kernel))), (tm_2 (List.mem_of_getElem? (i := 32) (by decide +kernel))), (tm_1 (List.mem_of_getElem? (i := 12) (by decide +kernel))), (tm_2 (List.mem_of_getElem? (i := 33) (by decide +kernel)))⟩
theorem lfX7_175 : za_fl RX7 175 2 1 (.int) 2 := ⟨_, _, _, "FeedTower$Item", tyX3, rfl, by decide, (tm_1 (List.mem_of_getElem? (i := 234) (by decide +kernel))), Or.inl rfl, uwX3, tyX3_ok, nmX3, rfl, (fun h => by cases h), fun h => by cases h⟩
theorem lfX7_178 : za_fl RX7 178 1 0 (.int) 2 := ⟨_, _, _, "FeedTower$App", tyX0, rfl, by decide, (tm_2 (List.mem_of_getElem? (i := 120) (by decide +kernel))), Or.inl rfl, uwX0, tyX0_ok, nmX0, rfl, (fun h => by cases h), fun h => by cases h⟩
theorem lmX7_196 : za_okm RX7 196 (0, 1, 4, 0, mX7_isReleased) := ⟨rfl, ⟨mkX7_isReleased, rfl, (tm_2 (List.mem_of_getElem? (i := 82) (by decide +kernel))), (tm_2 (List.mem_of_getElem? (i := 84) (by decide +kernel))), (List.mem_of_getElem? (i := 8) (by decide +kernel))⟩, _, rfl, rfl⟩
theorem lfX7_207 : za_fl RX7 207 2 3 (.object "java/util/ArrayList") 2 := ⟨_, _, _, "FeedTower$Item", tyX3, rfl, by decide, (tm_1 (List.mem_of_getElem? (i := 238) (by decide +kernel))), Or.inl rfl, uwX3, tyX3_ok, nmX3, rfl, (fun h => by cases h), fun h => by cases h⟩
theorem lfX7_237 : za_fl RX7 237 2 2 (.int) 2 := ⟨_, _, _, "FeedTower$Item", tyX3, rfl, by decide, (tm_1 (List.mem_of_getElem? (i := 236) (by decide +kernel))), Or.inl rfl, uwX3, tyX3_ok, nmX3, rfl, (fun h => by cases h), fun h => by cases h⟩
theorem lmX7_240 : za_okm RX7 240 (0, 0, 2, 3, mX3_uncutSeconds) := ⟨rfl, ⟨mkX3_uncutSeconds, rfl, (tm_2 (List.mem_of_getElem? (i := 157) (by decide +kernel))), (tm_2 (List.mem_of_getElem? (i := 158) (by decide +kernel))), (tm_2 (List.mem_of_getElem? (i := 159) (by decide +kernel)))⟩, _, rfl, rfl⟩
theorem lmX7_243 : za_okm RX7 243 (0, 1, 4, 3, mX7_downloadsOf) := ⟨rfl, ⟨mkX7_downloadsOf, rfl, (tm_2 (List.mem_of_getElem? (i := 161) (by decide +kernel))), (tm_2 (List.mem_of_getElem? (i := 163) (by decide +kernel))), (List.mem_of_getElem? (i := 12) (by decide +kernel))⟩, _, rfl, rfl⟩
theorem lfX7_249 : za_fl RX7 249 3 0 (.int) 2 := ⟨_, _, _, "FeedTower$Part", tyX4, rfl, by decide, (tm_2 (List.mem_of_getElem? (i := 197) (by decide +kernel))), Or.inl rfl, uwX4, tyX4_ok, nmX4, rfl, (fun h => by cases h), fun h => by cases h⟩
theorem lfX7_252 : za_fl RX7 252 3 1 (.int) 2 := ⟨_, _, _, "FeedTower$Part", tyX4, rfl, by decide, (tm_2 (List.mem_of_getElem? (i := 200) (by decide +kernel))), Or.inl rfl, uwX4, tyX4_ok, nmX4, rfl, (fun h => by cases h), fun h => by cases h⟩
theorem lfX7_253 : za_fl RX7 253 3 2 (.int) 2 := ⟨_, _, _, "FeedTower$Part", tyX4, rfl, by decide, (tm_2 (List.mem_of_getElem? (i := 202) (by decide +kernel))), Or.inl rfl, uwX4, tyX4_ok, nmX4, rfl, (fun h => by cases h), fun h => by cases h⟩
theorem lmX7_326 : za_okm RX7 326 (0, 1, 4, 1, mX7_isOut) := ⟨rfl, ⟨mkX7_isOut, rfl, (tm_1 (List.mem_of_getElem? (i := 202) (by decide +kernel))), (tm_1 (List.mem_of_getElem? (i := 204) (by decide +kernel))), (List.mem_of_getElem? (i := 2) (by decide +kernel))⟩, _, rfl, rfl⟩
theorem ltX7_48 : ∀ j ∈ ([50, 74, 77, 82, 92, 132, 134, 144, 146, 151, 247, 258, 308, 310, 316, 318, 324] : List Nat), za_tl RX7 48 j 52 0 := by
  intro j hj
  refine ⟨Or.inl rfl, by decide, ?_, (tm_1 (List.mem_of_getElem? (i := 163) (by decide +kernel))), (tm_1 (List.mem_of_getElem? (i := 17) (by decide +kernel))), by decide +kernel, by decide +kernel, by decide +kernel⟩
  rcases List.mem_cons.mp hj with rfl | hj
  · exact ⟨"seconds is out of range", (tm_2 (List.mem_of_getElem? (i := 190) (by decide +kernel)))⟩
  rcases List.mem_cons.mp hj with rfl | hj
  · exact ⟨"the song is out", (tm_2 (List.mem_of_getElem? (i := 231) (by decide +kernel)))⟩
  rcases List.mem_cons.mp hj with rfl | hj
  · exact ⟨"place is out of range", (tm_2 (List.mem_of_getElem? (i := 236) (by decide +kernel)))⟩
  rcases List.mem_cons.mp hj with rfl | hj
  · exact ⟨"hour is out of range", (tm_1 (List.mem_of_getElem? (i := 172) (by decide +kernel)))⟩
  rcases List.mem_cons.mp hj with rfl | hj
  · exact ⟨"the draft has no part to stay, or there are too many items", (tm_1 (List.mem_of_getElem? (i := 218) (by decide +kernel)))⟩
  rcases List.mem_cons.mp hj with rfl | hj
  · exact ⟨"the part is cut or the only one left, or the item is withdrawn", (tm_3 (List.mem_of_getElem? (i := 15) (by decide +kernel)))⟩
  rcases List.mem_cons.mp hj with rfl | hj
  · exact ⟨"the item is withdrawn", (tm_2 (List.mem_of_getElem? (i := 95) (by decide +kernel)))⟩
  rcases List.mem_cons.mp hj with rfl | hj
  · exact ⟨"hours is out of range", (tm_2 (List.mem_of_getElem? (i := 100) (by decide +kernel)))⟩
  rcases List.mem_cons.mp hj with rfl | hj
  · exact ⟨"the hours come to an end", (tm_2 (List.mem_of_getElem? (i := 101) (by decide +kernel)))⟩
  rcases List.mem_cons.mp hj with rfl | hj
  · exact ⟨"there are too many apps", (tm_2 (List.mem_of_getElem? (i := 110) (by decide +kernel)))⟩
  rcases List.mem_cons.mp hj with rfl | hj
  · exact ⟨"what is out of range", (tm_2 (List.mem_of_getElem? (i := 166) (by decide +kernel)))⟩
  rcases List.mem_cons.mp hj with rfl | hj
  · exact ⟨"at is below 0", (tm_2 (List.mem_of_getElem? (i := 171) (by decide +kernel)))⟩
  rcases List.mem_cons.mp hj with rfl | hj
  · exact ⟨"there is no such show", (tm_1 (List.mem_of_getElem? (i := 133) (by decide +kernel)))⟩
  rcases List.mem_cons.mp hj with rfl | hj
  · exact ⟨"there is no such song", (tm_2 (List.mem_of_getElem? (i := 230) (by decide +kernel)))⟩
  rcases List.mem_cons.mp hj with rfl | hj
  · exact ⟨"there is no such item", (tm_2 (List.mem_of_getElem? (i := 94) (by decide +kernel)))⟩
  rcases List.mem_cons.mp hj with rfl | hj
  · exact ⟨"there is no such app", (tm_2 (List.mem_of_getElem? (i := 140) (by decide +kernel)))⟩
  rcases List.mem_cons.mp hj with rfl | hj
  · exact ⟨"the draft has too many parts", (tm_2 (List.mem_of_getElem? (i := 222) (by decide +kernel)))⟩
  cases hj
theorem ltX7_72 : ∀ j ∈ ([50, 74, 77, 82, 92, 132, 134, 144, 146, 151, 247, 258, 308, 310, 316, 318, 324] : List Nat), za_tl RX7 72 j 76 1 := by
  intro j hj
  refine ⟨Or.inl rfl, by decide, ?_, (tm_1 (List.mem_of_getElem? (i := 209) (by decide +kernel))), (tm_1 (List.mem_of_getElem? (i := 9) (by decide +kernel))), by decide +kernel, by decide +kernel, by decide +kernel⟩
  rcases List.mem_cons.mp hj with rfl | hj
  · exact ⟨"seconds is out of range", (tm_2 (List.mem_of_getElem? (i := 190) (by decide +kernel)))⟩
  rcases List.mem_cons.mp hj with rfl | hj
  · exact ⟨"the song is out", (tm_2 (List.mem_of_getElem? (i := 231) (by decide +kernel)))⟩
  rcases List.mem_cons.mp hj with rfl | hj
  · exact ⟨"place is out of range", (tm_2 (List.mem_of_getElem? (i := 236) (by decide +kernel)))⟩
  rcases List.mem_cons.mp hj with rfl | hj
  · exact ⟨"hour is out of range", (tm_1 (List.mem_of_getElem? (i := 172) (by decide +kernel)))⟩
  rcases List.mem_cons.mp hj with rfl | hj
  · exact ⟨"the draft has no part to stay, or there are too many items", (tm_1 (List.mem_of_getElem? (i := 218) (by decide +kernel)))⟩
  rcases List.mem_cons.mp hj with rfl | hj
  · exact ⟨"the part is cut or the only one left, or the item is withdrawn", (tm_3 (List.mem_of_getElem? (i := 15) (by decide +kernel)))⟩
  rcases List.mem_cons.mp hj with rfl | hj
  · exact ⟨"the item is withdrawn", (tm_2 (List.mem_of_getElem? (i := 95) (by decide +kernel)))⟩
  rcases List.mem_cons.mp hj with rfl | hj
  · exact ⟨"hours is out of range", (tm_2 (List.mem_of_getElem? (i := 100) (by decide +kernel)))⟩
  rcases List.mem_cons.mp hj with rfl | hj
  · exact ⟨"the hours come to an end", (tm_2 (List.mem_of_getElem? (i := 101) (by decide +kernel)))⟩
  rcases List.mem_cons.mp hj with rfl | hj
  · exact ⟨"there are too many apps", (tm_2 (List.mem_of_getElem? (i := 110) (by decide +kernel)))⟩
  rcases List.mem_cons.mp hj with rfl | hj
  · exact ⟨"what is out of range", (tm_2 (List.mem_of_getElem? (i := 166) (by decide +kernel)))⟩
  rcases List.mem_cons.mp hj with rfl | hj
  · exact ⟨"at is below 0", (tm_2 (List.mem_of_getElem? (i := 171) (by decide +kernel)))⟩
  rcases List.mem_cons.mp hj with rfl | hj
  · exact ⟨"there is no such show", (tm_1 (List.mem_of_getElem? (i := 133) (by decide +kernel)))⟩
  rcases List.mem_cons.mp hj with rfl | hj
  · exact ⟨"there is no such song", (tm_2 (List.mem_of_getElem? (i := 230) (by decide +kernel)))⟩
  rcases List.mem_cons.mp hj with rfl | hj
  · exact ⟨"there is no such item", (tm_2 (List.mem_of_getElem? (i := 94) (by decide +kernel)))⟩
  rcases List.mem_cons.mp hj with rfl | hj
  · exact ⟨"there is no such app", (tm_2 (List.mem_of_getElem? (i := 140) (by decide +kernel)))⟩
  rcases List.mem_cons.mp hj with rfl | hj
  · exact ⟨"the draft has too many parts", (tm_2 (List.mem_of_getElem? (i := 222) (by decide +kernel)))⟩
  cases hj
theorem ltX7_256 : ∀ j ∈ ([50, 74, 77, 82, 92, 132, 134, 144, 146, 151, 247, 258, 308, 310, 316, 318, 324] : List Nat), za_tl RX7 256 j 260 2 := by
  intro j hj
  refine ⟨Or.inl rfl, by decide, ?_, (tm_1 (List.mem_of_getElem? (i := 92) (by decide +kernel))), (tm_1 (List.mem_of_getElem? (i := 8) (by decide +kernel))), by decide +kernel, by decide +kernel, by decide +kernel⟩
  rcases List.mem_cons.mp hj with rfl | hj
  · exact ⟨"seconds is out of range", (tm_2 (List.mem_of_getElem? (i := 190) (by decide +kernel)))⟩
  rcases List.mem_cons.mp hj with rfl | hj
  · exact ⟨"the song is out", (tm_2 (List.mem_of_getElem? (i := 231) (by decide +kernel)))⟩
  rcases List.mem_cons.mp hj with rfl | hj
  · exact ⟨"place is out of range", (tm_2 (List.mem_of_getElem? (i := 236) (by decide +kernel)))⟩
  rcases List.mem_cons.mp hj with rfl | hj
  · exact ⟨"hour is out of range", (tm_1 (List.mem_of_getElem? (i := 172) (by decide +kernel)))⟩
  rcases List.mem_cons.mp hj with rfl | hj
  · exact ⟨"the draft has no part to stay, or there are too many items", (tm_1 (List.mem_of_getElem? (i := 218) (by decide +kernel)))⟩
  rcases List.mem_cons.mp hj with rfl | hj
  · exact ⟨"the part is cut or the only one left, or the item is withdrawn", (tm_3 (List.mem_of_getElem? (i := 15) (by decide +kernel)))⟩
  rcases List.mem_cons.mp hj with rfl | hj
  · exact ⟨"the item is withdrawn", (tm_2 (List.mem_of_getElem? (i := 95) (by decide +kernel)))⟩
  rcases List.mem_cons.mp hj with rfl | hj
  · exact ⟨"hours is out of range", (tm_2 (List.mem_of_getElem? (i := 100) (by decide +kernel)))⟩
  rcases List.mem_cons.mp hj with rfl | hj
  · exact ⟨"the hours come to an end", (tm_2 (List.mem_of_getElem? (i := 101) (by decide +kernel)))⟩
  rcases List.mem_cons.mp hj with rfl | hj
  · exact ⟨"there are too many apps", (tm_2 (List.mem_of_getElem? (i := 110) (by decide +kernel)))⟩
  rcases List.mem_cons.mp hj with rfl | hj
  · exact ⟨"what is out of range", (tm_2 (List.mem_of_getElem? (i := 166) (by decide +kernel)))⟩
  rcases List.mem_cons.mp hj with rfl | hj
  · exact ⟨"at is below 0", (tm_2 (List.mem_of_getElem? (i := 171) (by decide +kernel)))⟩
  rcases List.mem_cons.mp hj with rfl | hj
  · exact ⟨"there is no such show", (tm_1 (List.mem_of_getElem? (i := 133) (by decide +kernel)))⟩
  rcases List.mem_cons.mp hj with rfl | hj
  · exact ⟨"there is no such song", (tm_2 (List.mem_of_getElem? (i := 230) (by decide +kernel)))⟩
  rcases List.mem_cons.mp hj with rfl | hj
  · exact ⟨"there is no such item", (tm_2 (List.mem_of_getElem? (i := 94) (by decide +kernel)))⟩
  rcases List.mem_cons.mp hj with rfl | hj
  · exact ⟨"there is no such app", (tm_2 (List.mem_of_getElem? (i := 140) (by decide +kernel)))⟩
  rcases List.mem_cons.mp hj with rfl | hj
  · exact ⟨"the draft has too many parts", (tm_2 (List.mem_of_getElem? (i := 222) (by decide +kernel)))⟩
  cases hj
def flX7 : List (Nat × (Nat × Nat × FieldType × Nat)) := [(10, (4, 0, .object "java/util/ArrayList", 1)), (16, (4, 1, .object "java/util/ArrayList", 1)), (19, (4, 2, .object "java/util/ArrayList", 1)), (22, (4, 3, .object "java/util/ArrayList", 1)), (25, (4, 4, .object "java/util/ArrayList", 1)), (28, (4, 5, .object "java/util/ArrayList", 0)), (31, (4, 6, .int, 0)), (35, (4, 7, .int, 0)), (38, (4, 8, .int, 0)), (41, (4, 9, .int, 0)), (111, (2, 0, .int, 2)), (125, (3, 3, .boolean, 0)), (129, (2, 4, .boolean, 0)), (161, (1, 1, .object "java/util/ArrayList", 2)), (167, (1, 2, .int, 0)), (175, (2, 1, .int, 2)), (178, (1, 0, .int, 2)), (207, (2, 3, .object "java/util/ArrayList", 2)), (237, (2, 2, .int, 2)), (249, (3, 0, .int, 2)), (252, (3, 1, .int, 2)), (253, (3, 2, .int, 2))]
def mtX7 : List (Nat × (Nat × Nat × Nat × Nat × za_M)) := [(1, (4, 0, 0, 0, mX7_isIn)), (9, (2, 0, 0, 3, mJx4a65c_init_da8c8)), (44, (1, 3, 0, 0, mX7_isIn)), (57, (2, 3, 0, 1, mX4_init)), (60, (0, 1, 4, 7, mX7_addToDraft)), (64, (1, 1, 0, 6, mX7_needSong)), (68, (1, 2, 0, 0, mX7_hasBit)), (79, (1, 1, 0, 6, mX7_needShow)), (84, (0, 0, 4, 3, mX7_isDraftOfUse)), (88, (0, 0, 0, 0, mJx4a65c_size_8abf5)), (96, (2, 4, 0, 1, mX3_init)), (99, (0, 1, 0, 6, mJx4a65c_add_9ea2d)), (103, (0, 1, 4, 4, mX7_cutWhatIsOut)), (107, (0, 1, 4, 7, mX7_noteChange)), (114, (0, 1, 4, 6, mX7_itemAt)), (118, (0, 1, 2, 6, mX3_partAt)), (122, (0, 0, 2, 3, mX3_uncutParts)), (136, (1, 2, 0, 0, mX7_withBit)), (140, (0, 1, 0, 2, mJx4a65c_get_915e3)), (148, (0, 0, 4, 7, mX7_releaseItemsOfThisHour)), (155, (2, 1, 0, 4, mX0_init)), (157, (0, 1, 4, 6, mX7_appAt)), (164, (0, 0, 0, 0, mJx4a65c_clear_da8c8)), (170, (5, 2, 0, 0, mX7_isIn)), (196, (0, 1, 4, 0, mX7_isReleased)), (240, (0, 0, 2, 3, mX3_uncutSeconds)), (243, (0, 1, 4, 3, mX7_downloadsOf)), (326, (0, 1, 4, 1, mX7_isOut))]
def nwX7 : List (Nat × (Nat × List Value)) := [(7, (0, [.int (nI 0), .null, .int (nI 0)])), (55, (3, [.int (nI 0), .int (nI 0), .int (nI 0), .int (nI 0), .int (nI 0)])), (94, (2, [.int (nI 0), .int (nI 0), .int (nI 0), .null, .int (nI 0)])), (153, (1, [.int (nI 0), .null, .int (nI 0)]))]
def thX7 : List (Nat × (Nat × Nat)) := [(48, (0, 52)), (72, (1, 76)), (256, (2, 260))]
def ckX7 : List (Nat × Nat) := [(55, 3), (94, 2), (153, 1)]
def cnX7 : List (Nat × Int32) := []
def lkX7 : za_LK := (za_lu flX7, za_lu mtX7, za_lu nwX7, za_lu thX7, (fun i => ([50, 74, 77, 82, 92, 132, 134, 144, 146, 151, 247, 258, 308, 310, 316, 318, 324] : List Nat).elem i), za_lu ckX7, za_lu cnX7)
theorem okX7 : za_lk RX7 lkX7 := ⟨za_lu_ok (l := flX7) (Q := fun i q => za_fl RX7 i q.1 q.2.1 q.2.2.1 q.2.2.2) (za_cons lfX7_10 (za_cons lfX7_16 (za_cons lfX7_19 (za_cons lfX7_22 (za_cons lfX7_25 (za_cons lfX7_28 (za_cons lfX7_31 (za_cons lfX7_35 (za_cons lfX7_38 (za_cons lfX7_41 (za_cons lfX7_111 (za_cons lfX7_125 (za_cons lfX7_129 (za_cons lfX7_161 (za_cons lfX7_167 (za_cons lfX7_175 (za_cons lfX7_178 (za_cons lfX7_207 (za_cons lfX7_237 (za_cons lfX7_249 (za_cons lfX7_252 (za_cons lfX7_253 za_nil)))))))))))))))))))))), za_lu_ok (l := mtX7) (Q := za_okm RX7) (za_cons lmX7_1 (za_cons lmX7_9 (za_cons lmX7_44 (za_cons lmX7_57 (za_cons lmX7_60 (za_cons lmX7_64 (za_cons lmX7_68 (za_cons lmX7_79 (za_cons lmX7_84 (za_cons lmX7_88 (za_cons lmX7_96 (za_cons lmX7_99 (za_cons lmX7_103 (za_cons lmX7_107 (za_cons lmX7_114 (za_cons lmX7_118 (za_cons lmX7_122 (za_cons lmX7_136 (za_cons lmX7_140 (za_cons lmX7_148 (za_cons lmX7_155 (za_cons lmX7_157 (za_cons lmX7_164 (za_cons lmX7_170 (za_cons lmX7_196 (za_cons lmX7_240 (za_cons lmX7_243 (za_cons lmX7_326 za_nil)))))))))))))))))))))))))))), za_lu_ok (l := nwX7) (Q := fun i q => za_nl RX7 i q.1 q.2) (za_cons lnX7_7 (za_cons lnX7_55 (za_cons lnX7_94 (za_cons lnX7_153 za_nil)))), fun i q j h hj => za_lu_ok (l := thX7) (Q := fun i q => ∀ j, ([50, 74, 77, 82, 92, 132, 134, 144, 146, 151, 247, 258, 308, 310, 316, 318, 324] : List Nat).elem j = true → za_tl RX7 i j q.2 q.1) (za_cons (fun j hj => ltX7_48 j (List.elem_iff.mp hj)) (za_cons (fun j hj => ltX7_72 j (List.elem_iff.mp hj)) (za_cons (fun j hj => ltX7_256 j (List.elem_iff.mp hj)) za_nil))) i q h j hj, za_lu_ok (l := ckX7) (Q := fun i ci => ∃ r, vwCl[ci]? = some r ∧ Jvm.Cond.classLink RX7 i r.1 ∈ lw_tbl) (za_cons ⟨_, rfl, (tm_1 (List.mem_of_getElem? (i := 201) (by decide +kernel)))⟩ (za_cons ⟨_, rfl, (tm_1 (List.mem_of_getElem? (i := 225) (by decide +kernel)))⟩ (za_cons ⟨_, rfl, (tm_2 (List.mem_of_getElem? (i := 111) (by decide +kernel)))⟩ za_nil))), za_lu_ok (l := cnX7) (Q := fun i v => Jvm.Cond.constant RX7 i v ∈ lw_tbl) za_nil⟩
theorem uX7_f10 : za_LK.fl lkX7 10 = some (4, 0, .object "java/util/ArrayList", 1) := rfl
theorem uX7_f16 : za_LK.fl lkX7 16 = some (4, 1, .object "java/util/ArrayList", 1) := rfl
theorem uX7_f19 : za_LK.fl lkX7 19 = some (4, 2, .object "java/util/ArrayList", 1) := rfl
theorem uX7_f22 : za_LK.fl lkX7 22 = some (4, 3, .object "java/util/ArrayList", 1) := rfl
theorem uX7_f25 : za_LK.fl lkX7 25 = some (4, 4, .object "java/util/ArrayList", 1) := rfl
theorem uX7_f28 : za_LK.fl lkX7 28 = some (4, 5, .object "java/util/ArrayList", 0) := rfl
theorem uX7_f31 : za_LK.fl lkX7 31 = some (4, 6, .int, 0) := rfl
theorem uX7_f35 : za_LK.fl lkX7 35 = some (4, 7, .int, 0) := rfl
theorem uX7_f38 : za_LK.fl lkX7 38 = some (4, 8, .int, 0) := rfl
theorem uX7_f41 : za_LK.fl lkX7 41 = some (4, 9, .int, 0) := rfl
theorem uX7_f111 : za_LK.fl lkX7 111 = some (2, 0, .int, 2) := rfl
theorem uX7_f125 : za_LK.fl lkX7 125 = some (3, 3, .boolean, 0) := rfl
theorem uX7_f129 : za_LK.fl lkX7 129 = some (2, 4, .boolean, 0) := rfl
theorem uX7_f161 : za_LK.fl lkX7 161 = some (1, 1, .object "java/util/ArrayList", 2) := rfl
theorem uX7_f167 : za_LK.fl lkX7 167 = some (1, 2, .int, 0) := rfl
theorem uX7_f175 : za_LK.fl lkX7 175 = some (2, 1, .int, 2) := rfl
theorem uX7_f178 : za_LK.fl lkX7 178 = some (1, 0, .int, 2) := rfl
theorem uX7_f207 : za_LK.fl lkX7 207 = some (2, 3, .object "java/util/ArrayList", 2) := rfl
theorem uX7_f237 : za_LK.fl lkX7 237 = some (2, 2, .int, 2) := rfl
theorem uX7_f249 : za_LK.fl lkX7 249 = some (3, 0, .int, 2) := rfl
theorem uX7_f252 : za_LK.fl lkX7 252 = some (3, 1, .int, 2) := rfl
theorem uX7_f253 : za_LK.fl lkX7 253 = some (3, 2, .int, 2) := rfl
theorem uX7_m1 : za_LK.mt lkX7 1 = some (4, 0, 0, 0, mX7_isIn) := rfl
theorem uX7_m9 : za_LK.mt lkX7 9 = some (2, 0, 0, 3, mJx4a65c_init_da8c8) := rfl
theorem uX7_m44 : za_LK.mt lkX7 44 = some (1, 3, 0, 0, mX7_isIn) := rfl
theorem uX7_m57 : za_LK.mt lkX7 57 = some (2, 3, 0, 1, mX4_init) := rfl
theorem uX7_m60 : za_LK.mt lkX7 60 = some (0, 1, 4, 7, mX7_addToDraft) := rfl
theorem uX7_m64 : za_LK.mt lkX7 64 = some (1, 1, 0, 6, mX7_needSong) := rfl
theorem uX7_m68 : za_LK.mt lkX7 68 = some (1, 2, 0, 0, mX7_hasBit) := rfl
theorem uX7_m79 : za_LK.mt lkX7 79 = some (1, 1, 0, 6, mX7_needShow) := rfl
theorem uX7_m84 : za_LK.mt lkX7 84 = some (0, 0, 4, 3, mX7_isDraftOfUse) := rfl
theorem uX7_m88 : za_LK.mt lkX7 88 = some (0, 0, 0, 0, mJx4a65c_size_8abf5) := rfl
theorem uX7_m96 : za_LK.mt lkX7 96 = some (2, 4, 0, 1, mX3_init) := rfl
theorem uX7_m99 : za_LK.mt lkX7 99 = some (0, 1, 0, 6, mJx4a65c_add_9ea2d) := rfl
theorem uX7_m103 : za_LK.mt lkX7 103 = some (0, 1, 4, 4, mX7_cutWhatIsOut) := rfl
theorem uX7_m107 : za_LK.mt lkX7 107 = some (0, 1, 4, 7, mX7_noteChange) := rfl
theorem uX7_m114 : za_LK.mt lkX7 114 = some (0, 1, 4, 6, mX7_itemAt) := rfl
theorem uX7_m118 : za_LK.mt lkX7 118 = some (0, 1, 2, 6, mX3_partAt) := rfl
theorem uX7_m122 : za_LK.mt lkX7 122 = some (0, 0, 2, 3, mX3_uncutParts) := rfl
theorem uX7_m136 : za_LK.mt lkX7 136 = some (1, 2, 0, 0, mX7_withBit) := rfl
theorem uX7_m140 : za_LK.mt lkX7 140 = some (0, 1, 0, 2, mJx4a65c_get_915e3) := rfl
theorem uX7_m148 : za_LK.mt lkX7 148 = some (0, 0, 4, 7, mX7_releaseItemsOfThisHour) := rfl
theorem uX7_m155 : za_LK.mt lkX7 155 = some (2, 1, 0, 4, mX0_init) := rfl
theorem uX7_m157 : za_LK.mt lkX7 157 = some (0, 1, 4, 6, mX7_appAt) := rfl
theorem uX7_m164 : za_LK.mt lkX7 164 = some (0, 0, 0, 0, mJx4a65c_clear_da8c8) := rfl
theorem uX7_m170 : za_LK.mt lkX7 170 = some (5, 2, 0, 0, mX7_isIn) := rfl
theorem uX7_m196 : za_LK.mt lkX7 196 = some (0, 1, 4, 0, mX7_isReleased) := rfl
theorem uX7_m240 : za_LK.mt lkX7 240 = some (0, 0, 2, 3, mX3_uncutSeconds) := rfl
theorem uX7_m243 : za_LK.mt lkX7 243 = some (0, 1, 4, 3, mX7_downloadsOf) := rfl
theorem uX7_m326 : za_LK.mt lkX7 326 = some (0, 1, 4, 1, mX7_isOut) := rfl
theorem uX7_n7 : za_LK.nw lkX7 7 = some (0, [.int (nI 0), .null, .int (nI 0)]) := rfl
theorem uX7_n55 : za_LK.nw lkX7 55 = some (3, [.int (nI 0), .int (nI 0), .int (nI 0), .int (nI 0), .int (nI 0)]) := rfl
theorem uX7_n94 : za_LK.nw lkX7 94 = some (2, [.int (nI 0), .int (nI 0), .int (nI 0), .null, .int (nI 0)]) := rfl
theorem uX7_n153 : za_LK.nw lkX7 153 = some (1, [.int (nI 0), .null, .int (nI 0)]) := rfl
theorem uX7_n48 : za_LK.nw lkX7 48 = none := rfl
theorem uX7_t48 : za_LK.th lkX7 48 = some (0, 52) := rfl
theorem uX7_n72 : za_LK.nw lkX7 72 = none := rfl
theorem uX7_t72 : za_LK.th lkX7 72 = some (1, 76) := rfl
theorem uX7_n256 : za_LK.nw lkX7 256 = none := rfl
theorem uX7_t256 : za_LK.th lkX7 256 = some (2, 260) := rfl
theorem uX7_s50 : za_LK.sx lkX7 50 = true := rfl
theorem uX7_s74 : za_LK.sx lkX7 74 = true := rfl
theorem uX7_s77 : za_LK.sx lkX7 77 = true := rfl
theorem uX7_s82 : za_LK.sx lkX7 82 = true := rfl
theorem uX7_s92 : za_LK.sx lkX7 92 = true := rfl
theorem uX7_s132 : za_LK.sx lkX7 132 = true := rfl
theorem uX7_s134 : za_LK.sx lkX7 134 = true := rfl
theorem uX7_s144 : za_LK.sx lkX7 144 = true := rfl
theorem uX7_s146 : za_LK.sx lkX7 146 = true := rfl
theorem uX7_s151 : za_LK.sx lkX7 151 = true := rfl
theorem uX7_s247 : za_LK.sx lkX7 247 = true := rfl
theorem uX7_s258 : za_LK.sx lkX7 258 = true := rfl
theorem uX7_s308 : za_LK.sx lkX7 308 = true := rfl
theorem uX7_s310 : za_LK.sx lkX7 310 = true := rfl
theorem uX7_s316 : za_LK.sx lkX7 316 = true := rfl
theorem uX7_s318 : za_LK.sx lkX7 318 = true := rfl
theorem uX7_s324 : za_LK.sx lkX7 324 = true := rfl
theorem uX7_c55 : za_LK.ck lkX7 55 = some 3 := rfl
theorem uX7_c94 : za_LK.ck lkX7 94 = some 2 := rfl
theorem uX7_c153 : za_LK.ck lkX7 153 = some 1 := rfl
