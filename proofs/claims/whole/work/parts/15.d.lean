theorem lmX7_1 : za_okm RX7 1 (4, 0, 0, 0, mX7_isIn) := ⟨rfl, (tm_1 (List.mem_of_getElem? (i := 30) (by decide +kernel))), (tm_1 (List.mem_of_getElem? (i := 31) (by decide +kernel))), (tm_1 (List.mem_of_getElem? (i := 32) (by decide +kernel)))⟩
theorem lnX7_7 : za_nl RX7 7 0 [.int (nI 0), .null, .int (nI 0)] := ⟨_, _, _, tyJx4a65c, rfl, (tm_1 (List.mem_of_getElem? (i := 33) (by decide +kernel))), (tm_1 (List.mem_of_getElem? (i := 34) (by decide +kernel))), (tm_1 (List.mem_of_getElem? (i := 4) (by decide +kernel))), uwJx4a65c, tyJx4a65c_ok, rfl, by decide +kernel⟩
theorem lmX7_9 : za_okm RX7 9 (2, 0, 0, 3, mJx4a65c_init_da8c8) := ⟨rfl, mkJx4a65c_init_da8c8, rfl, rfl, rfl, (tm_1 (List.mem_of_getElem? (i := 35) (by decide +kernel))), (tm_1 (List.mem_of_getElem? (i := 36) (by decide +kernel)))⟩
theorem lfX7_10 : za_fl RX7 10 8 0 (.object "java/util/ArrayList") 1 := ⟨_, _, _, "FeedTower", tyX7, rfl, by decide, (tm_1 (List.mem_of_getElem? (i := 59) (by decide +kernel))), Or.inl rfl, uwX7, tyX7_ok, nmX7, rfl, (fun h => by cases h), fun _ => ⟨rfl, rfl⟩⟩
theorem lfX7_16 : za_fl RX7 16 8 1 (.object "java/util/ArrayList") 1 := ⟨_, _, _, "FeedTower", tyX7, rfl, by decide, (tm_1 (List.mem_of_getElem? (i := 60) (by decide +kernel))), Or.inl rfl, uwX7, tyX7_ok, nmX7, rfl, (fun h => by cases h), fun _ => ⟨rfl, rfl⟩⟩
theorem lfX7_19 : za_fl RX7 19 8 2 (.object "java/util/ArrayList") 1 := ⟨_, _, _, "FeedTower", tyX7, rfl, by decide, (tm_1 (List.mem_of_getElem? (i := 61) (by decide +kernel))), Or.inl rfl, uwX7, tyX7_ok, nmX7, rfl, (fun h => by cases h), fun _ => ⟨rfl, rfl⟩⟩
theorem lfX7_22 : za_fl RX7 22 8 3 (.object "java/util/ArrayList") 1 := ⟨_, _, _, "FeedTower", tyX7, rfl, by decide, (tm_1 (List.mem_of_getElem? (i := 62) (by decide +kernel))), Or.inl rfl, uwX7, tyX7_ok, nmX7, rfl, (fun h => by cases h), fun _ => ⟨rfl, rfl⟩⟩
theorem lfX7_25 : za_fl RX7 25 8 4 (.object "java/util/ArrayList") 1 := ⟨_, _, _, "FeedTower", tyX7, rfl, by decide, (tm_1 (List.mem_of_getElem? (i := 63) (by decide +kernel))), Or.inl rfl, uwX7, tyX7_ok, nmX7, rfl, (fun h => by cases h), fun _ => ⟨rfl, rfl⟩⟩
theorem lfX7_28 : za_fl RX7 28 8 5 (.object "java/util/ArrayList") 0 := ⟨_, _, _, "FeedTower", tyX7, rfl, by decide, (tm_1 (List.mem_of_getElem? (i := 64) (by decide +kernel))), Or.inl rfl, uwX7, tyX7_ok, nmX7, rfl, fun _ => rfl, fun h => by cases h⟩
theorem lfX7_31 : za_fl RX7 31 8 6 (.int) 0 := ⟨_, _, _, "FeedTower", tyX7, rfl, by decide, (tm_1 (List.mem_of_getElem? (i := 65) (by decide +kernel))), Or.inl rfl, uwX7, tyX7_ok, nmX7, rfl, fun _ => rfl, fun h => by cases h⟩
theorem lfX7_35 : za_fl RX7 35 8 7 (.int) 0 := ⟨_, _, _, "FeedTower", tyX7, rfl, by decide, (tm_1 (List.mem_of_getElem? (i := 66) (by decide +kernel))), Or.inl rfl, uwX7, tyX7_ok, nmX7, rfl, fun _ => rfl, fun h => by cases h⟩
theorem lfX7_38 : za_fl RX7 38 8 8 (.int) 0 := ⟨_, _, _, "FeedTower", tyX7, rfl, by decide, (tm_1 (List.mem_of_getElem? (i := 67) (by decide +kernel))), Or.inl rfl, uwX7, tyX7_ok, nmX7, rfl, fun _ => rfl, fun h => by cases h⟩
theorem lfX7_41 : za_fl RX7 41 8 9 (.int) 0 := ⟨_, _, _, "FeedTower", tyX7, rfl, by decide, (tm_1 (List.mem_of_getElem? (i := 68) (by decide +kernel))), Or.inl rfl, uwX7, tyX7_ok, nmX7, rfl, fun _ => rfl, fun h => by cases h⟩
theorem lmX7_44 : za_okm RX7 44 (1, 3, 0, 0, mX7_isIn) := ⟨rfl, mkX7_isIn, (tm_1 (List.mem_of_getElem? (i := 103) (by decide +kernel))), (tm_1 (List.mem_of_getElem? (i := 104) (by decide +kernel)))⟩
theorem lnX7_55 : za_nl RX7 55 5 [.int (nI 0), .int (nI 0), .int (nI 0), .int (nI 0), .int (nI 0)] := ⟨_, _, _, tyX4, rfl, (tm_1 (List.mem_of_getElem? (i := 174) (by decide +kernel))), (tm_1 (List.mem_of_getElem? (i := 175) (by decide +kernel))), (tm_1 (List.mem_of_getElem? (i := 10) (by decide +kernel))), uwX4, tyX4_ok, rfl, by decide +kernel⟩
theorem lmX7_57 : za_okm RX7 57 (2, 3, 0, 1, mX4_init) := ⟨rfl, mkX4_init, rfl, rfl, rfl, (tm_1 (List.mem_of_getElem? (i := 176) (by decide +kernel))), (tm_1 (List.mem_of_getElem? (i := 177) (by decide +kernel)))⟩
theorem lmX7_60 : za_okm RX7 60 (0, 1, 8, 7, mX7_addToDraft) := ⟨rfl, ⟨mkX7_addToDraft, rfl, (tm_1 (List.mem_of_getElem? (i := 206) (by decide +kernel))), (tm_1 (List.mem_of_getElem? (i := 208) (by decide +kernel))), (List.mem_of_getElem? (i := 1) (by decide +kernel))⟩, _, rfl, rfl⟩
theorem lmX7_64 : za_okm RX7 64 (1, 1, 0, 6, mX7_needSong) := ⟨rfl, mkX7_needSong, (tm_2 (List.mem_of_getElem? (i := 58) (by decide +kernel))), (tm_2 (List.mem_of_getElem? (i := 59) (by decide +kernel)))⟩
theorem lmX7_68 : za_okm RX7 68 (1, 2, 0, 0, mX7_hasBit) := ⟨rfl, mkX7_hasBit, (tm_2 (List.mem_of_getElem? (i := 77) (by decide +kernel))), (tm_2 (List.mem_of_getElem? (i := 78) (by decide +kernel)))⟩
theorem lmX7_79 : za_okm RX7 79 (1, 1, 0, 6, mX7_needShow) := ⟨rfl, mkX7_needShow, (tm_2 (List.mem_of_getElem? (i := 96) (by decide +kernel))), (tm_2 (List.mem_of_getElem? (i := 97) (by decide +kernel)))⟩
theorem lmX7_84 : za_okm RX7 84 (0, 0, 8, 3, mX7_isDraftOfUse) := ⟨rfl, ⟨mkX7_isDraftOfUse, rfl, (tm_2 (List.mem_of_getElem? (i := 101) (by decide +kernel))), (tm_2 (List.mem_of_getElem? (i := 103) (by decide +kernel))), (List.mem_of_getElem? (i := 5) (by decide +kernel))⟩, _, rfl, rfl⟩
theorem lmX7_88 : za_okm RX7 88 (0, 0, 0, 0, mJx4a65c_size_8abf5) := ⟨rfl, ⟨mkJx4a65c_size_8abf5, rfl, (tm_1 (List.mem_of_getElem? (i := 210) (by decide +kernel))), (tm_1 (List.mem_of_getElem? (i := 211) (by decide +kernel))), (tm_1 (List.mem_of_getElem? (i := 212) (by decide +kernel)))⟩, _, rfl, rfl⟩
theorem lnX7_94 : za_nl RX7 94 4 [.int (nI 0), .int (nI 0), .int (nI 0), .null, .int (nI 0)] := ⟨_, _, _, tyX3, rfl, (tm_2 (List.mem_of_getElem? (i := 124) (by decide +kernel))), (tm_2 (List.mem_of_getElem? (i := 125) (by decide +kernel))), (tm_1 (List.mem_of_getElem? (i := 19) (by decide +kernel))), uwX3, tyX3_ok, rfl, by decide +kernel⟩
theorem lmX7_96 : za_okm RX7 96 (2, 4, 0, 1, mX3_init) := ⟨rfl, mkX3_init, rfl, rfl, rfl, (tm_2 (List.mem_of_getElem? (i := 126) (by decide +kernel))), (tm_2 (List.mem_of_getElem? (i := 127) (by decide +kernel)))⟩
theorem lmX7_99 : za_okm RX7 99 (0, 1, 0, 6, mJx4a65c_add_9ea2d) := ⟨rfl, ⟨mkJx4a65c_add_9ea2d, rfl, (tm_1 (List.mem_of_getElem? (i := 230) (by decide +kernel))), (tm_1 (List.mem_of_getElem? (i := 231) (by decide +kernel))), (tm_1 (List.mem_of_getElem? (i := 232) (by decide +kernel)))⟩, _, rfl, rfl⟩
theorem lmX7_103 : za_okm RX7 103 (0, 1, 8, 4, mX7_cutWhatIsOut) := ⟨rfl, ⟨mkX7_cutWhatIsOut, rfl, (tm_2 (List.mem_of_getElem? (i := 151) (by decide +kernel))), (tm_2 (List.mem_of_getElem? (i := 153) (by decide +kernel))), (List.mem_of_getElem? (i := 7) (by decide +kernel))⟩, _, rfl, rfl⟩
theorem lmX7_107 : za_okm RX7 107 (0, 1, 8, 7, mX7_noteChange) := ⟨rfl, ⟨mkX7_noteChange, rfl, (tm_2 (List.mem_of_getElem? (i := 162) (by decide +kernel))), (tm_2 (List.mem_of_getElem? (i := 164) (by decide +kernel))), (List.mem_of_getElem? (i := 8) (by decide +kernel))⟩, _, rfl, rfl⟩
theorem lfX7_111 : za_fl RX7 111 4 0 (.int) 2 := ⟨_, _, _, "FeedTower$Item", tyX3, rfl, by decide, (tm_2 (List.mem_of_getElem? (i := 131) (by decide +kernel))), Or.inl rfl, uwX3, tyX3_ok, nmX3, rfl, (fun h => by cases h), fun h => by cases h⟩
theorem lmX7_114 : za_okm RX7 114 (0, 1, 8, 6, mX7_itemAt) := ⟨rfl, ⟨mkX7_itemAt, rfl, (tm_2 (List.mem_of_getElem? (i := 177) (by decide +kernel))), (tm_2 (List.mem_of_getElem? (i := 179) (by decide +kernel))), (List.mem_of_getElem? (i := 10) (by decide +kernel))⟩, _, rfl, rfl⟩
theorem lmX7_118 : za_okm RX7 118 (0, 1, 4, 6, mX3_partAt) := ⟨rfl, ⟨mkX3_partAt, rfl, (tm_2 (List.mem_of_getElem? (i := 182) (by decide +kernel))), (tm_2 (List.mem_of_getElem? (i := 183) (by decide +kernel))), (tm_2 (List.mem_of_getElem? (i := 184) (by decide +kernel)))⟩, _, rfl, rfl⟩
theorem lmX7_122 : za_okm RX7 122 (0, 0, 4, 3, mX3_uncutParts) := ⟨rfl, ⟨mkX3_uncutParts, rfl, (tm_2 (List.mem_of_getElem? (i := 155) (by decide +kernel))), (tm_2 (List.mem_of_getElem? (i := 156) (by decide +kernel))), (tm_2 (List.mem_of_getElem? (i := 157) (by decide +kernel)))⟩, _, rfl, rfl⟩
theorem lfX7_125 : za_fl RX7 125 5 3 (.boolean) 0 := ⟨_, _, _, "FeedTower$Part", tyX4, rfl, by decide, (tm_1 (List.mem_of_getElem? (i := 190) (by decide +kernel))), Or.inl rfl, uwX4, tyX4_ok, nmX4, rfl, fun _ => rfl, fun h => by cases h⟩
theorem lfX7_129 : za_fl RX7 129 4 4 (.boolean) 0 := ⟨_, _, _, "FeedTower$Item", tyX3, rfl, by decide, (tm_2 (List.mem_of_getElem? (i := 139) (by decide +kernel))), Or.inl rfl, uwX3, tyX3_ok, nmX3, rfl, fun _ => rfl, fun h => by cases h⟩
theorem lmX7_136 : za_okm RX7 136 (1, 2, 0, 0, mX7_withBit) := ⟨rfl, mkX7_withBit, (tm_2 (List.mem_of_getElem? (i := 205) (by decide +kernel))), (tm_2 (List.mem_of_getElem? (i := 206) (by decide +kernel)))⟩
theorem lmX7_140 : za_okm RX7 140 (0, 1, 0, 2, mJx4a65c_get_915e3) := ⟨rfl, ⟨mkJx4a65c_get_915e3, rfl, (tm_2 (List.mem_of_getElem? (i := 105) (by decide +kernel))), (tm_2 (List.mem_of_getElem? (i := 106) (by decide +kernel))), (tm_2 (List.mem_of_getElem? (i := 107) (by decide +kernel)))⟩, _, rfl, rfl⟩
theorem lmX7_148 : za_okm RX7 148 (0, 0, 8, 7, mX7_releaseItemsOfThisHour) := ⟨rfl, ⟨mkX7_releaseItemsOfThisHour, rfl, (tm_2 (List.mem_of_getElem? (i := 217) (by decide +kernel))), (tm_2 (List.mem_of_getElem? (i := 219) (by decide +kernel))), (List.mem_of_getElem? (i := 11) (by decide +kernel))⟩, _, rfl, rfl⟩
theorem lnX7_153 : za_nl RX7 153 1 [.int (nI 0), .null, .int (nI 0)] := ⟨_, _, _, tyX0, rfl, (tm_2 (List.mem_of_getElem? (i := 229) (by decide +kernel))), (tm_2 (List.mem_of_getElem? (i := 230) (by decide +kernel))), (tm_1 (List.mem_of_getElem? (i := 20) (by decide +kernel))), uwX0, tyX0_ok, rfl, by decide +kernel⟩
theorem lmX7_155 : za_okm RX7 155 (2, 1, 0, 4, mX0_init) := ⟨rfl, mkX0_init, rfl, rfl, rfl, (tm_2 (List.mem_of_getElem? (i := 231) (by decide +kernel))), (tm_2 (List.mem_of_getElem? (i := 232) (by decide +kernel)))⟩
theorem lmX7_157 : za_okm RX7 157 (0, 1, 8, 6, mX7_appAt) := ⟨rfl, ⟨mkX7_appAt, rfl, (tm_3 (List.mem_of_getElem? (i := 17) (by decide +kernel))), (tm_3 (List.mem_of_getElem? (i := 19) (by decide +kernel))), (List.mem_of_getElem? (i := 12) (by decide +kernel))⟩, _, rfl, rfl⟩
theorem lfX7_161 : za_fl RX7 161 1 1 (.object "java/util/ArrayList") 2 := ⟨_, _, _, "FeedTower$App", tyX0, rfl, by decide, (tm_3 (List.mem_of_getElem? (i := 0) (by decide +kernel))), Or.inl rfl, uwX0, tyX0_ok, nmX0, rfl, (fun h => by cases h), fun h => by cases h⟩
theorem lmX7_164 : za_okm RX7 164 (0, 0, 0, 0, mJx4a65c_clear_da8c8) := ⟨rfl, ⟨mkJx4a65c_clear_da8c8, rfl, (tm_3 (List.mem_of_getElem? (i := 22) (by decide +kernel))), (tm_3 (List.mem_of_getElem? (i := 23) (by decide +kernel))), (tm_3 (List.mem_of_getElem? (i := 24) (by decide +kernel)))⟩, _, rfl, rfl⟩
theorem lfX7_167 : za_fl RX7 167 1 2 (.int) 0 := ⟨_, _, _, "FeedTower$App", tyX0, rfl, by decide, (tm_3 (List.mem_of_getElem? (i := 2) (by decide +kernel))), Or.inl rfl, uwX0, tyX0_ok, nmX0, rfl, fun _ => rfl, fun h => by cases h⟩
theorem lmX7_170 : za_okm RX7 170 (5, 2, 0, 0, mX7_isIn) := ⟨rfl, (tm_3 (List.mem_of_getElem? (i := 26) (by decide +kernel))), (tm_2 (List.mem_of_getElem? (i := 10) (by decide +kernel))), (tm_1 (List.mem_of_getElem? (i := 13) (by decide +kernel))), (tm_2 (List.mem_of_getElem? (i := 11) (by decide +kernel)))⟩
theorem lfX7_175 : za_fl RX7 175 4 1 (.int) 2 := ⟨_, _, _, "FeedTower$Item", tyX3, rfl, by decide, (tm_2 (List.mem_of_getElem? (i := 133) (by decide +kernel))), Or.inl rfl, uwX3, tyX3_ok, nmX3, rfl, (fun h => by cases h), fun h => by cases h⟩
theorem lfX7_178 : za_fl RX7 178 1 0 (.int) 2 := ⟨_, _, _, "FeedTower$App", tyX0, rfl, by decide, (tm_2 (List.mem_of_getElem? (i := 238) (by decide +kernel))), Or.inl rfl, uwX0, tyX0_ok, nmX0, rfl, (fun h => by cases h), fun h => by cases h⟩
theorem lnX7_187 : za_nl RX7 187 2 [.int (nI 0), .int (nI 0), .int (nI 0), .int (nI 0), .int (nI 0), .int (nI 0), .int (nI 0), .int (nI 0), .int (nI 0)] := ⟨_, _, _, tyX1, rfl, (tm_3 (List.mem_of_getElem? (i := 38) (by decide +kernel))), (tm_3 (List.mem_of_getElem? (i := 39) (by decide +kernel))), (tm_1 (List.mem_of_getElem? (i := 21) (by decide +kernel))), uwX1, tyX1_ok, rfl, by decide +kernel⟩
theorem lmX7_189 : za_okm RX7 189 (2, 7, 0, 1, mX1_init) := ⟨rfl, mkX1_init, rfl, rfl, rfl, (tm_3 (List.mem_of_getElem? (i := 40) (by decide +kernel))), (tm_3 (List.mem_of_getElem? (i := 41) (by decide +kernel)))⟩
theorem lfX7_192 : za_fl RX7 192 2 7 (.int) 0 := ⟨_, _, _, "FeedTower$Campaign", tyX1, rfl, by decide, (tm_3 (List.mem_of_getElem? (i := 56) (by decide +kernel))), Or.inl rfl, uwX1, tyX1_ok, nmX1, rfl, fun _ => rfl, fun h => by cases h⟩
theorem lmX7_193 : za_okm RX7 193 (1, 1, 0, 6, mX7_needListener) := ⟨rfl, mkX7_needListener, (tm_3 (List.mem_of_getElem? (i := 85) (by decide +kernel))), (tm_3 (List.mem_of_getElem? (i := 86) (by decide +kernel)))⟩
theorem lmX7_196 : za_okm RX7 196 (0, 1, 8, 0, mX7_isReleased) := ⟨rfl, ⟨mkX7_isReleased, rfl, (tm_2 (List.mem_of_getElem? (i := 166) (by decide +kernel))), (tm_2 (List.mem_of_getElem? (i := 168) (by decide +kernel))), (List.mem_of_getElem? (i := 9) (by decide +kernel))⟩, _, rfl, rfl⟩
theorem lnX7_202 : za_nl RX7 202 3 [.int (nI 0), .int (nI 0), .int (nI 0), .int (nI 0), .null, .null, .int (nI 0), .int (nI 0), .int (nI 0), .int (nI 0)] := ⟨_, _, _, tyX2, rfl, (tm_3 (List.mem_of_getElem? (i := 90) (by decide +kernel))), (tm_3 (List.mem_of_getElem? (i := 91) (by decide +kernel))), (tm_1 (List.mem_of_getElem? (i := 22) (by decide +kernel))), uwX2, tyX2_ok, rfl, by decide +kernel⟩
theorem lmX7_204 : za_okm RX7 204 (2, 4, 0, 4, mX2_init) := ⟨rfl, mkX2_init, rfl, rfl, rfl, (tm_3 (List.mem_of_getElem? (i := 92) (by decide +kernel))), (tm_3 (List.mem_of_getElem? (i := 93) (by decide +kernel)))⟩
theorem lfX7_207 : za_fl RX7 207 4 3 (.object "java/util/ArrayList") 2 := ⟨_, _, _, "FeedTower$Item", tyX3, rfl, by decide, (tm_2 (List.mem_of_getElem? (i := 137) (by decide +kernel))), Or.inl rfl, uwX3, tyX3_ok, nmX3, rfl, (fun h => by cases h), fun h => by cases h⟩
theorem lmX7_210 : za_okm RX7 210 (0, 3, 8, 8, mX7_addToDownload) := ⟨rfl, ⟨mkX7_addToDownload, rfl, (tm_3 (List.mem_of_getElem? (i := 138) (by decide +kernel))), (tm_3 (List.mem_of_getElem? (i := 140) (by decide +kernel))), (List.mem_of_getElem? (i := 13) (by decide +kernel))⟩, _, rfl, rfl⟩
theorem lfX7_214 : za_fl RX7 214 3 0 (.int) 2 := ⟨_, _, _, "FeedTower$Download", tyX2, rfl, by decide, (tm_3 (List.mem_of_getElem? (i := 99) (by decide +kernel))), Or.inl rfl, uwX2, tyX2_ok, nmX2, rfl, (fun h => by cases h), fun h => by cases h⟩
theorem lmX7_215 : za_okm RX7 215 (0, 1, 8, 6, mX7_downloadAt) := ⟨rfl, ⟨mkX7_downloadAt, rfl, (tm_3 (List.mem_of_getElem? (i := 198) (by decide +kernel))), (tm_3 (List.mem_of_getElem? (i := 200) (by decide +kernel))), (List.mem_of_getElem? (i := 17) (by decide +kernel))⟩, _, rfl, rfl⟩
theorem lfX7_219 : za_fl RX7 219 3 6 (.int) 0 := ⟨_, _, _, "FeedTower$Download", tyX2, rfl, by decide, (tm_3 (List.mem_of_getElem? (i := 110) (by decide +kernel))), Or.inl rfl, uwX2, tyX2_ok, nmX2, rfl, fun _ => rfl, fun h => by cases h⟩
theorem lmX7_224 : za_okm RX7 224 (0, 2, 3, 7, mX2_addRange) := ⟨rfl, ⟨mkX2_addRange, rfl, (tm_3 (List.mem_of_getElem? (i := 204) (by decide +kernel))), (tm_3 (List.mem_of_getElem? (i := 205) (by decide +kernel))), (tm_3 (List.mem_of_getElem? (i := 206) (by decide +kernel)))⟩, _, rfl, rfl⟩
theorem lfX7_228 : za_fl RX7 228 3 7 (.int) 0 := ⟨_, _, _, "FeedTower$Download", tyX2, rfl, by decide, (tm_3 (List.mem_of_getElem? (i := 112) (by decide +kernel))), Or.inl rfl, uwX2, tyX2_ok, nmX2, rfl, fun _ => rfl, fun h => by cases h⟩
theorem lmX7_231 : za_okm RX7 231 (0, 2, 8, 5, mX7_wantsCorrection) := ⟨rfl, ⟨mkX7_wantsCorrection, rfl, (tm_4 (List.mem_of_getElem? (i := 13) (by decide +kernel))), (tm_4 (List.mem_of_getElem? (i := 15) (by decide +kernel))), (List.mem_of_getElem? (i := 18) (by decide +kernel))⟩, _, rfl, rfl⟩
theorem lfX7_234 : za_fl RX7 234 5 4 (.int) 0 := ⟨_, _, _, "FeedTower$Part", tyX4, rfl, by decide, (tm_1 (List.mem_of_getElem? (i := 194) (by decide +kernel))), Or.inl rfl, uwX4, tyX4_ok, nmX4, rfl, fun _ => rfl, fun h => by cases h⟩
theorem lfX7_237 : za_fl RX7 237 4 2 (.int) 2 := ⟨_, _, _, "FeedTower$Item", tyX3, rfl, by decide, (tm_2 (List.mem_of_getElem? (i := 135) (by decide +kernel))), Or.inl rfl, uwX3, tyX3_ok, nmX3, rfl, (fun h => by cases h), fun h => by cases h⟩
theorem lmX7_240 : za_okm RX7 240 (0, 0, 4, 3, mX3_uncutSeconds) := ⟨rfl, ⟨mkX3_uncutSeconds, rfl, (tm_4 (List.mem_of_getElem? (i := 37) (by decide +kernel))), (tm_4 (List.mem_of_getElem? (i := 38) (by decide +kernel))), (tm_4 (List.mem_of_getElem? (i := 39) (by decide +kernel)))⟩, _, rfl, rfl⟩
theorem lmX7_243 : za_okm RX7 243 (0, 1, 8, 3, mX7_downloadsOf) := ⟨rfl, ⟨mkX7_downloadsOf, rfl, (tm_4 (List.mem_of_getElem? (i := 41) (by decide +kernel))), (tm_4 (List.mem_of_getElem? (i := 43) (by decide +kernel))), (List.mem_of_getElem? (i := 19) (by decide +kernel))⟩, _, rfl, rfl⟩
theorem lfX7_249 : za_fl RX7 249 5 0 (.int) 2 := ⟨_, _, _, "FeedTower$Part", tyX4, rfl, by decide, (tm_1 (List.mem_of_getElem? (i := 182) (by decide +kernel))), Or.inl rfl, uwX4, tyX4_ok, nmX4, rfl, (fun h => by cases h), fun h => by cases h⟩
theorem lfX7_252 : za_fl RX7 252 5 1 (.int) 2 := ⟨_, _, _, "FeedTower$Part", tyX4, rfl, by decide, (tm_1 (List.mem_of_getElem? (i := 185) (by decide +kernel))), Or.inl rfl, uwX4, tyX4_ok, nmX4, rfl, (fun h => by cases h), fun h => by cases h⟩
theorem lfX7_253 : za_fl RX7 253 5 2 (.int) 2 := ⟨_, _, _, "FeedTower$Part", tyX4, rfl, by decide, (tm_1 (List.mem_of_getElem? (i := 187) (by decide +kernel))), Or.inl rfl, uwX4, tyX4_ok, nmX4, rfl, (fun h => by cases h), fun h => by cases h⟩
theorem lmX7_261 : za_okm RX7 261 (0, 1, 8, 6, mX7_campaignAt) := ⟨rfl, ⟨mkX7_campaignAt, rfl, (tm_4 (List.mem_of_getElem? (i := 68) (by decide +kernel))), (tm_4 (List.mem_of_getElem? (i := 70) (by decide +kernel))), (List.mem_of_getElem? (i := 20) (by decide +kernel))⟩, _, rfl, rfl⟩
theorem lfX7_265 : za_fl RX7 265 2 8 (.int) 0 := ⟨_, _, _, "FeedTower$Campaign", tyX1, rfl, by decide, (tm_3 (List.mem_of_getElem? (i := 58) (by decide +kernel))), Or.inl rfl, uwX1, tyX1_ok, nmX1, rfl, fun _ => rfl, fun h => by cases h⟩
theorem lmX7_268 : za_okm RX7 268 (0, 1, 2, 0, mX1_dueIn) := ⟨rfl, ⟨mkX1_dueIn, rfl, (tm_3 (List.mem_of_getElem? (i := 146) (by decide +kernel))), (tm_3 (List.mem_of_getElem? (i := 147) (by decide +kernel))), (tm_3 (List.mem_of_getElem? (i := 148) (by decide +kernel)))⟩, _, rfl, rfl⟩
theorem lmX7_271 : za_okm RX7 271 (0, 1, 8, 6, mX7_adsHeard) := ⟨rfl, ⟨mkX7_adsHeard, rfl, (tm_4 (List.mem_of_getElem? (i := 73) (by decide +kernel))), (tm_4 (List.mem_of_getElem? (i := 75) (by decide +kernel))), (List.mem_of_getElem? (i := 21) (by decide +kernel))⟩, _, rfl, rfl⟩
theorem lfX7_275 : za_fl RX7 275 3 1 (.int) 2 := ⟨_, _, _, "FeedTower$Download", tyX2, rfl, by decide, (tm_3 (List.mem_of_getElem? (i := 101) (by decide +kernel))), Or.inl rfl, uwX2, tyX2_ok, nmX2, rfl, (fun h => by cases h), fun h => by cases h⟩
theorem lfX7_278 : za_fl RX7 278 3 2 (.int) 2 := ⟨_, _, _, "FeedTower$Download", tyX2, rfl, by decide, (tm_3 (List.mem_of_getElem? (i := 103) (by decide +kernel))), Or.inl rfl, uwX2, tyX2_ok, nmX2, rfl, (fun h => by cases h), fun h => by cases h⟩
theorem lfX7_281 : za_fl RX7 281 3 3 (.int) 2 := ⟨_, _, _, "FeedTower$Download", tyX2, rfl, by decide, (tm_3 (List.mem_of_getElem? (i := 105) (by decide +kernel))), Or.inl rfl, uwX2, tyX2_ok, nmX2, rfl, (fun h => by cases h), fun h => by cases h⟩
theorem lfX7_282 : za_fl RX7 282 3 4 (.object "java/util/ArrayList") 2 := ⟨_, _, _, "FeedTower$Download", tyX2, rfl, by decide, (tm_3 (List.mem_of_getElem? (i := 107) (by decide +kernel))), Or.inl rfl, uwX2, tyX2_ok, nmX2, rfl, (fun h => by cases h), fun h => by cases h⟩
theorem lmX7_285 : za_okm RX7 285 (0, 2, 8, 5, mX7_reach) := ⟨rfl, ⟨mkX7_reach, rfl, (tm_4 (List.mem_of_getElem? (i := 88) (by decide +kernel))), (tm_4 (List.mem_of_getElem? (i := 90) (by decide +kernel))), (List.mem_of_getElem? (i := 22) (by decide +kernel))⟩, _, rfl, rfl⟩
theorem lmX7_288 : za_okm RX7 288 (0, 1, 3, 3, mX2_secondBehind) := ⟨rfl, ⟨mkX2_secondBehind, rfl, (tm_4 (List.mem_of_getElem? (i := 96) (by decide +kernel))), (tm_4 (List.mem_of_getElem? (i := 97) (by decide +kernel))), (tm_4 (List.mem_of_getElem? (i := 98) (by decide +kernel)))⟩, _, rfl, rfl⟩
theorem lfX7_295 : za_fl RX7 295 6 4 (.int) 2 := ⟨_, _, _, "FeedTower$Piece", tyX5, rfl, by decide, (tm_3 (List.mem_of_getElem? (i := 178) (by decide +kernel))), Or.inl rfl, uwX5, tyX5_ok, nmX5, rfl, (fun h => by cases h), fun h => by cases h⟩
theorem lmX7_298 : za_okm RX7 298 (0, 2, 3, 4, mX2_loadedIn) := ⟨rfl, ⟨mkX2_loadedIn, rfl, (tm_4 (List.mem_of_getElem? (i := 116) (by decide +kernel))), (tm_3 (List.mem_of_getElem? (i := 209) (by decide +kernel))), (tm_3 (List.mem_of_getElem? (i := 210) (by decide +kernel)))⟩, _, rfl, rfl⟩
theorem lmX7_301 : za_okm RX7 301 (1, 1, 0, 6, mX7_needRule) := ⟨rfl, mkX7_needRule, (tm_4 (List.mem_of_getElem? (i := 124) (by decide +kernel))), (tm_4 (List.mem_of_getElem? (i := 125) (by decide +kernel)))⟩
theorem lmX7_304 : za_okm RX7 304 (0, 2, 8, 4, mX7_isCounted) := ⟨rfl, ⟨mkX7_isCounted, rfl, (tm_4 (List.mem_of_getElem? (i := 128) (by decide +kernel))), (tm_4 (List.mem_of_getElem? (i := 130) (by decide +kernel))), (List.mem_of_getElem? (i := 23) (by decide +kernel))⟩, _, rfl, rfl⟩
theorem lmX7_326 : za_okm RX7 326 (0, 1, 8, 1, mX7_isOut) := ⟨rfl, ⟨mkX7_isOut, rfl, (tm_2 (List.mem_of_getElem? (i := 119) (by decide +kernel))), (tm_2 (List.mem_of_getElem? (i := 121) (by decide +kernel))), (List.mem_of_getElem? (i := 6) (by decide +kernel))⟩, _, rfl, rfl⟩
theorem lmX7_330 : za_okm RX7 330 (0, 2, 8, 5, mX7_adFor) := ⟨rfl, ⟨mkX7_adFor, rfl, (tm_3 (List.mem_of_getElem? (i := 142) (by decide +kernel))), (tm_3 (List.mem_of_getElem? (i := 144) (by decide +kernel))), (List.mem_of_getElem? (i := 14) (by decide +kernel))⟩, _, rfl, rfl⟩
theorem lmX7_334 : za_okm RX7 334 (0, 4, 3, 7, mX2_addPiece) := ⟨rfl, ⟨mkX2_addPiece, rfl, (tm_3 (List.mem_of_getElem? (i := 158) (by decide +kernel))), (tm_3 (List.mem_of_getElem? (i := 159) (by decide +kernel))), (tm_3 (List.mem_of_getElem? (i := 160) (by decide +kernel)))⟩, _, rfl, rfl⟩
theorem lfX7_338 : za_fl RX7 338 3 8 (.int) 0 := ⟨_, _, _, "FeedTower$Download", tyX2, rfl, by decide, (tm_3 (List.mem_of_getElem? (i := 114) (by decide +kernel))), Or.inl rfl, uwX2, tyX2_ok, nmX2, rfl, fun _ => rfl, fun h => by cases h⟩
theorem lfX7_341 : za_fl RX7 341 3 9 (.int) 0 := ⟨_, _, _, "FeedTower$Download", tyX2, rfl, by decide, (tm_3 (List.mem_of_getElem? (i := 116) (by decide +kernel))), Or.inl rfl, uwX2, tyX2_ok, nmX2, rfl, fun _ => rfl, fun h => by cases h⟩
theorem lfX7_344 : za_fl RX7 344 2 1 (.int) 2 := ⟨_, _, _, "FeedTower$Campaign", tyX1, rfl, by decide, (tm_3 (List.mem_of_getElem? (i := 47) (by decide +kernel))), Or.inl rfl, uwX1, tyX1_ok, nmX1, rfl, (fun h => by cases h), fun h => by cases h⟩
theorem lfX7_347 : za_fl RX7 347 2 2 (.int) 2 := ⟨_, _, _, "FeedTower$Campaign", tyX1, rfl, by decide, (tm_3 (List.mem_of_getElem? (i := 49) (by decide +kernel))), Or.inl rfl, uwX1, tyX1_ok, nmX1, rfl, (fun h => by cases h), fun h => by cases h⟩
theorem lfX7_348 : za_fl RX7 348 2 0 (.int) 2 := ⟨_, _, _, "FeedTower$Campaign", tyX1, rfl, by decide, (tm_3 (List.mem_of_getElem? (i := 45) (by decide +kernel))), Or.inl rfl, uwX1, tyX1_ok, nmX1, rfl, (fun h => by cases h), fun h => by cases h⟩
theorem lmX7_351 : za_okm RX7 351 (0, 2, 8, 4, mX7_isAllowed) := ⟨rfl, ⟨mkX7_isAllowed, rfl, (tm_3 (List.mem_of_getElem? (i := 150) (by decide +kernel))), (tm_3 (List.mem_of_getElem? (i := 152) (by decide +kernel))), (List.mem_of_getElem? (i := 15) (by decide +kernel))⟩, _, rfl, rfl⟩
theorem lmX7_355 : za_okm RX7 355 (0, 2, 8, 3, mX7_adsToday) := ⟨rfl, ⟨mkX7_adsToday, rfl, (tm_3 (List.mem_of_getElem? (i := 154) (by decide +kernel))), (tm_3 (List.mem_of_getElem? (i := 156) (by decide +kernel))), (List.mem_of_getElem? (i := 16) (by decide +kernel))⟩, _, rfl, rfl⟩
theorem lfX7_358 : za_fl RX7 358 2 6 (.int) 2 := ⟨_, _, _, "FeedTower$Campaign", tyX1, rfl, by decide, (tm_3 (List.mem_of_getElem? (i := 54) (by decide +kernel))), Or.inl rfl, uwX1, tyX1_ok, nmX1, rfl, (fun h => by cases h), fun h => by cases h⟩
theorem lmX7_361 : za_okm RX7 361 (0, 1, 3, 5, mX2_hasWholeAd) := ⟨rfl, ⟨mkX2_hasWholeAd, rfl, (tm_4 (List.mem_of_getElem? (i := 77) (by decide +kernel))), (tm_4 (List.mem_of_getElem? (i := 78) (by decide +kernel))), (tm_4 (List.mem_of_getElem? (i := 79) (by decide +kernel)))⟩, _, rfl, rfl⟩
theorem lmX7_365 : za_okm RX7 365 (0, 1, 8, 3, mX7_isCountedStrictly) := ⟨rfl, ⟨mkX7_isCountedStrictly, rfl, (tm_4 (List.mem_of_getElem? (i := 132) (by decide +kernel))), (tm_4 (List.mem_of_getElem? (i := 134) (by decide +kernel))), (List.mem_of_getElem? (i := 24) (by decide +kernel))⟩, _, rfl, rfl⟩
theorem lmX7_369 : za_okm RX7 369 (0, 0, 3, 1, mX2_isLoadedEnough) := ⟨rfl, ⟨mkX2_isLoadedEnough, rfl, (tm_4 (List.mem_of_getElem? (i := 136) (by decide +kernel))), (tm_4 (List.mem_of_getElem? (i := 137) (by decide +kernel))), (tm_4 (List.mem_of_getElem? (i := 138) (by decide +kernel)))⟩, _, rfl, rfl⟩
theorem lmX7_372 : za_okm RX7 372 (0, 2, 3, 0, mX2_isOf) := ⟨rfl, ⟨mkX2_isOf, rfl, (tm_4 (List.mem_of_getElem? (i := 17) (by decide +kernel))), (tm_4 (List.mem_of_getElem? (i := 18) (by decide +kernel))), (tm_4 (List.mem_of_getElem? (i := 19) (by decide +kernel)))⟩, _, rfl, rfl⟩
theorem lmX7_375 : za_okm RX7 375 (0, 0, 3, 4, mX2_reach) := ⟨rfl, ⟨mkX2_reach, rfl, (tm_4 (List.mem_of_getElem? (i := 92) (by decide +kernel))), (tm_4 (List.mem_of_getElem? (i := 93) (by decide +kernel))), (tm_4 (List.mem_of_getElem? (i := 94) (by decide +kernel)))⟩, _, rfl, rfl⟩
theorem lmX7_377 : za_okm RX7 377 (0, 0, 3, 4, mX2_hasLoadedUntoldCut) := ⟨rfl, ⟨mkX2_hasLoadedUntoldCut, rfl, (tm_4 (List.mem_of_getElem? (i := 21) (by decide +kernel))), (tm_4 (List.mem_of_getElem? (i := 22) (by decide +kernel))), (tm_4 (List.mem_of_getElem? (i := 23) (by decide +kernel)))⟩, _, rfl, rfl⟩
theorem ltX7_48 : ∀ j ∈ ([50, 74, 77, 82, 92, 132, 134, 144, 146, 151, 179, 181, 183, 185, 200, 222, 247, 258, 291, 308, 310, 312, 314, 316, 318, 320, 322, 324] : List Nat), za_tl RX7 48 j 52 0 := by
  intro j hj
  refine ⟨Or.inl rfl, by decide, ?_, (tm_1 (List.mem_of_getElem? (i := 106) (by decide +kernel))), (tm_1 (List.mem_of_getElem? (i := 9) (by decide +kernel))), by decide +kernel, by decide +kernel, by decide +kernel⟩
  rcases List.mem_cons.mp hj with rfl | hj
  · exact ⟨"seconds is out of range", (tm_1 (List.mem_of_getElem? (i := 147) (by decide +kernel)))⟩
  rcases List.mem_cons.mp hj with rfl | hj
  · exact ⟨"the song is out", (tm_2 (List.mem_of_getElem? (i := 80) (by decide +kernel)))⟩
  rcases List.mem_cons.mp hj with rfl | hj
  · exact ⟨"place is out of range", (tm_2 (List.mem_of_getElem? (i := 88) (by decide +kernel)))⟩
  rcases List.mem_cons.mp hj with rfl | hj
  · exact ⟨"hour is out of range", (tm_2 (List.mem_of_getElem? (i := 100) (by decide +kernel)))⟩
  rcases List.mem_cons.mp hj with rfl | hj
  · exact ⟨"the draft has no part to stay, or there are too many items", (tm_2 (List.mem_of_getElem? (i := 123) (by decide +kernel)))⟩
  rcases List.mem_cons.mp hj with rfl | hj
  · exact ⟨"the part is cut or the only one left, or the item is withdrawn", (tm_2 (List.mem_of_getElem? (i := 189) (by decide +kernel)))⟩
  rcases List.mem_cons.mp hj with rfl | hj
  · exact ⟨"the item is withdrawn", (tm_2 (List.mem_of_getElem? (i := 197) (by decide +kernel)))⟩
  rcases List.mem_cons.mp hj with rfl | hj
  · exact ⟨"hours is out of range", (tm_2 (List.mem_of_getElem? (i := 215) (by decide +kernel)))⟩
  rcases List.mem_cons.mp hj with rfl | hj
  · exact ⟨"the hours come to an end", (tm_2 (List.mem_of_getElem? (i := 216) (by decide +kernel)))⟩
  rcases List.mem_cons.mp hj with rfl | hj
  · exact ⟨"there are too many apps", (tm_2 (List.mem_of_getElem? (i := 228) (by decide +kernel)))⟩
  rcases List.mem_cons.mp hj with rfl | hj
  · exact ⟨"place, group or seconds is out of range", (tm_3 (List.mem_of_getElem? (i := 34) (by decide +kernel)))⟩
  rcases List.mem_cons.mp hj with rfl | hj
  · exact ⟨"from or to is out of range", (tm_3 (List.mem_of_getElem? (i := 35) (by decide +kernel)))⟩
  rcases List.mem_cons.mp hj with rfl | hj
  · exact ⟨"many or daily is out of range", (tm_3 (List.mem_of_getElem? (i := 36) (by decide +kernel)))⟩
  rcases List.mem_cons.mp hj with rfl | hj
  · exact ⟨"there are too many campaigns", (tm_3 (List.mem_of_getElem? (i := 37) (by decide +kernel)))⟩
  rcases List.mem_cons.mp hj with rfl | hj
  · exact ⟨"the item is not to be had, or there are too many downloads", (tm_3 (List.mem_of_getElem? (i := 89) (by decide +kernel)))⟩
  rcases List.mem_cons.mp hj with rfl | hj
  · exact ⟨"there were too many ranges", (tm_3 (List.mem_of_getElem? (i := 203) (by decide +kernel)))⟩
  rcases List.mem_cons.mp hj with rfl | hj
  · exact ⟨"what is out of range", (tm_4 (List.mem_of_getElem? (i := 45) (by decide +kernel)))⟩
  rcases List.mem_cons.mp hj with rfl | hj
  · exact ⟨"at is below 0", (tm_4 (List.mem_of_getElem? (i := 60) (by decide +kernel)))⟩
  rcases List.mem_cons.mp hj with rfl | hj
  · exact ⟨"there is no such part of the download", (tm_4 (List.mem_of_getElem? (i := 107) (by decide +kernel)))⟩
  rcases List.mem_cons.mp hj with rfl | hj
  · exact ⟨"there is no such show", (tm_2 (List.mem_of_getElem? (i := 99) (by decide +kernel)))⟩
  rcases List.mem_cons.mp hj with rfl | hj
  · exact ⟨"there is no such song", (tm_2 (List.mem_of_getElem? (i := 70) (by decide +kernel)))⟩
  rcases List.mem_cons.mp hj with rfl | hj
  · exact ⟨"there is no such listener", (tm_3 (List.mem_of_getElem? (i := 88) (by decide +kernel)))⟩
  rcases List.mem_cons.mp hj with rfl | hj
  · exact ⟨"rule is out of range", (tm_4 (List.mem_of_getElem? (i := 127) (by decide +kernel)))⟩
  rcases List.mem_cons.mp hj with rfl | hj
  · exact ⟨"there is no such item", (tm_2 (List.mem_of_getElem? (i := 181) (by decide +kernel)))⟩
  rcases List.mem_cons.mp hj with rfl | hj
  · exact ⟨"there is no such app", (tm_3 (List.mem_of_getElem? (i := 21) (by decide +kernel)))⟩
  rcases List.mem_cons.mp hj with rfl | hj
  · exact ⟨"there is no such campaign", (tm_4 (List.mem_of_getElem? (i := 72) (by decide +kernel)))⟩
  rcases List.mem_cons.mp hj with rfl | hj
  · exact ⟨"there is no such download", (tm_3 (List.mem_of_getElem? (i := 202) (by decide +kernel)))⟩
  rcases List.mem_cons.mp hj with rfl | hj
  · exact ⟨"the draft has too many parts", (tm_1 (List.mem_of_getElem? (i := 223) (by decide +kernel)))⟩
  cases hj
theorem ltX7_72 : ∀ j ∈ ([50, 74, 77, 82, 92, 132, 134, 144, 146, 151, 179, 181, 183, 185, 200, 222, 247, 258, 291, 308, 310, 312, 314, 316, 318, 320, 322, 324] : List Nat), za_tl RX7 72 j 76 1 := by
  intro j hj
  refine ⟨Or.inl rfl, by decide, ?_, (tm_1 (List.mem_of_getElem? (i := 214) (by decide +kernel))), (tm_1 (List.mem_of_getElem? (i := 11) (by decide +kernel))), by decide +kernel, by decide +kernel, by decide +kernel⟩
  rcases List.mem_cons.mp hj with rfl | hj
  · exact ⟨"seconds is out of range", (tm_1 (List.mem_of_getElem? (i := 147) (by decide +kernel)))⟩
  rcases List.mem_cons.mp hj with rfl | hj
  · exact ⟨"the song is out", (tm_2 (List.mem_of_getElem? (i := 80) (by decide +kernel)))⟩
  rcases List.mem_cons.mp hj with rfl | hj
  · exact ⟨"place is out of range", (tm_2 (List.mem_of_getElem? (i := 88) (by decide +kernel)))⟩
  rcases List.mem_cons.mp hj with rfl | hj
  · exact ⟨"hour is out of range", (tm_2 (List.mem_of_getElem? (i := 100) (by decide +kernel)))⟩
  rcases List.mem_cons.mp hj with rfl | hj
  · exact ⟨"the draft has no part to stay, or there are too many items", (tm_2 (List.mem_of_getElem? (i := 123) (by decide +kernel)))⟩
  rcases List.mem_cons.mp hj with rfl | hj
  · exact ⟨"the part is cut or the only one left, or the item is withdrawn", (tm_2 (List.mem_of_getElem? (i := 189) (by decide +kernel)))⟩
  rcases List.mem_cons.mp hj with rfl | hj
  · exact ⟨"the item is withdrawn", (tm_2 (List.mem_of_getElem? (i := 197) (by decide +kernel)))⟩
  rcases List.mem_cons.mp hj with rfl | hj
  · exact ⟨"hours is out of range", (tm_2 (List.mem_of_getElem? (i := 215) (by decide +kernel)))⟩
  rcases List.mem_cons.mp hj with rfl | hj
  · exact ⟨"the hours come to an end", (tm_2 (List.mem_of_getElem? (i := 216) (by decide +kernel)))⟩
  rcases List.mem_cons.mp hj with rfl | hj
  · exact ⟨"there are too many apps", (tm_2 (List.mem_of_getElem? (i := 228) (by decide +kernel)))⟩
  rcases List.mem_cons.mp hj with rfl | hj
  · exact ⟨"place, group or seconds is out of range", (tm_3 (List.mem_of_getElem? (i := 34) (by decide +kernel)))⟩
  rcases List.mem_cons.mp hj with rfl | hj
  · exact ⟨"from or to is out of range", (tm_3 (List.mem_of_getElem? (i := 35) (by decide +kernel)))⟩
  rcases List.mem_cons.mp hj with rfl | hj
  · exact ⟨"many or daily is out of range", (tm_3 (List.mem_of_getElem? (i := 36) (by decide +kernel)))⟩
  rcases List.mem_cons.mp hj with rfl | hj
  · exact ⟨"there are too many campaigns", (tm_3 (List.mem_of_getElem? (i := 37) (by decide +kernel)))⟩
  rcases List.mem_cons.mp hj with rfl | hj
  · exact ⟨"the item is not to be had, or there are too many downloads", (tm_3 (List.mem_of_getElem? (i := 89) (by decide +kernel)))⟩
  rcases List.mem_cons.mp hj with rfl | hj
  · exact ⟨"there were too many ranges", (tm_3 (List.mem_of_getElem? (i := 203) (by decide +kernel)))⟩
  rcases List.mem_cons.mp hj with rfl | hj
  · exact ⟨"what is out of range", (tm_4 (List.mem_of_getElem? (i := 45) (by decide +kernel)))⟩
  rcases List.mem_cons.mp hj with rfl | hj
  · exact ⟨"at is below 0", (tm_4 (List.mem_of_getElem? (i := 60) (by decide +kernel)))⟩
  rcases List.mem_cons.mp hj with rfl | hj
  · exact ⟨"there is no such part of the download", (tm_4 (List.mem_of_getElem? (i := 107) (by decide +kernel)))⟩
  rcases List.mem_cons.mp hj with rfl | hj
  · exact ⟨"there is no such show", (tm_2 (List.mem_of_getElem? (i := 99) (by decide +kernel)))⟩
  rcases List.mem_cons.mp hj with rfl | hj
  · exact ⟨"there is no such song", (tm_2 (List.mem_of_getElem? (i := 70) (by decide +kernel)))⟩
  rcases List.mem_cons.mp hj with rfl | hj
  · exact ⟨"there is no such listener", (tm_3 (List.mem_of_getElem? (i := 88) (by decide +kernel)))⟩
  rcases List.mem_cons.mp hj with rfl | hj
  · exact ⟨"rule is out of range", (tm_4 (List.mem_of_getElem? (i := 127) (by decide +kernel)))⟩
  rcases List.mem_cons.mp hj with rfl | hj
  · exact ⟨"there is no such item", (tm_2 (List.mem_of_getElem? (i := 181) (by decide +kernel)))⟩
  rcases List.mem_cons.mp hj with rfl | hj
  · exact ⟨"there is no such app", (tm_3 (List.mem_of_getElem? (i := 21) (by decide +kernel)))⟩
  rcases List.mem_cons.mp hj with rfl | hj
  · exact ⟨"there is no such campaign", (tm_4 (List.mem_of_getElem? (i := 72) (by decide +kernel)))⟩
  rcases List.mem_cons.mp hj with rfl | hj
  · exact ⟨"there is no such download", (tm_3 (List.mem_of_getElem? (i := 202) (by decide +kernel)))⟩
  rcases List.mem_cons.mp hj with rfl | hj
  · exact ⟨"the draft has too many parts", (tm_1 (List.mem_of_getElem? (i := 223) (by decide +kernel)))⟩
  cases hj
theorem ltX7_256 : ∀ j ∈ ([50, 74, 77, 82, 92, 132, 134, 144, 146, 151, 179, 181, 183, 185, 200, 222, 247, 258, 291, 308, 310, 312, 314, 316, 318, 320, 322, 324] : List Nat), za_tl RX7 256 j 260 2 := by
  intro j hj
  refine ⟨Or.inl rfl, by decide, ?_, (tm_2 (List.mem_of_getElem? (i := 61) (by decide +kernel))), (tm_1 (List.mem_of_getElem? (i := 16) (by decide +kernel))), by decide +kernel, by decide +kernel, by decide +kernel⟩
  rcases List.mem_cons.mp hj with rfl | hj
  · exact ⟨"seconds is out of range", (tm_1 (List.mem_of_getElem? (i := 147) (by decide +kernel)))⟩
  rcases List.mem_cons.mp hj with rfl | hj
  · exact ⟨"the song is out", (tm_2 (List.mem_of_getElem? (i := 80) (by decide +kernel)))⟩
  rcases List.mem_cons.mp hj with rfl | hj
  · exact ⟨"place is out of range", (tm_2 (List.mem_of_getElem? (i := 88) (by decide +kernel)))⟩
  rcases List.mem_cons.mp hj with rfl | hj
  · exact ⟨"hour is out of range", (tm_2 (List.mem_of_getElem? (i := 100) (by decide +kernel)))⟩
  rcases List.mem_cons.mp hj with rfl | hj
  · exact ⟨"the draft has no part to stay, or there are too many items", (tm_2 (List.mem_of_getElem? (i := 123) (by decide +kernel)))⟩
  rcases List.mem_cons.mp hj with rfl | hj
  · exact ⟨"the part is cut or the only one left, or the item is withdrawn", (tm_2 (List.mem_of_getElem? (i := 189) (by decide +kernel)))⟩
  rcases List.mem_cons.mp hj with rfl | hj
  · exact ⟨"the item is withdrawn", (tm_2 (List.mem_of_getElem? (i := 197) (by decide +kernel)))⟩
  rcases List.mem_cons.mp hj with rfl | hj
  · exact ⟨"hours is out of range", (tm_2 (List.mem_of_getElem? (i := 215) (by decide +kernel)))⟩
  rcases List.mem_cons.mp hj with rfl | hj
  · exact ⟨"the hours come to an end", (tm_2 (List.mem_of_getElem? (i := 216) (by decide +kernel)))⟩
  rcases List.mem_cons.mp hj with rfl | hj
  · exact ⟨"there are too many apps", (tm_2 (List.mem_of_getElem? (i := 228) (by decide +kernel)))⟩
  rcases List.mem_cons.mp hj with rfl | hj
  · exact ⟨"place, group or seconds is out of range", (tm_3 (List.mem_of_getElem? (i := 34) (by decide +kernel)))⟩
  rcases List.mem_cons.mp hj with rfl | hj
  · exact ⟨"from or to is out of range", (tm_3 (List.mem_of_getElem? (i := 35) (by decide +kernel)))⟩
  rcases List.mem_cons.mp hj with rfl | hj
  · exact ⟨"many or daily is out of range", (tm_3 (List.mem_of_getElem? (i := 36) (by decide +kernel)))⟩
  rcases List.mem_cons.mp hj with rfl | hj
  · exact ⟨"there are too many campaigns", (tm_3 (List.mem_of_getElem? (i := 37) (by decide +kernel)))⟩
  rcases List.mem_cons.mp hj with rfl | hj
  · exact ⟨"the item is not to be had, or there are too many downloads", (tm_3 (List.mem_of_getElem? (i := 89) (by decide +kernel)))⟩
  rcases List.mem_cons.mp hj with rfl | hj
  · exact ⟨"there were too many ranges", (tm_3 (List.mem_of_getElem? (i := 203) (by decide +kernel)))⟩
  rcases List.mem_cons.mp hj with rfl | hj
  · exact ⟨"what is out of range", (tm_4 (List.mem_of_getElem? (i := 45) (by decide +kernel)))⟩
  rcases List.mem_cons.mp hj with rfl | hj
  · exact ⟨"at is below 0", (tm_4 (List.mem_of_getElem? (i := 60) (by decide +kernel)))⟩
  rcases List.mem_cons.mp hj with rfl | hj
  · exact ⟨"there is no such part of the download", (tm_4 (List.mem_of_getElem? (i := 107) (by decide +kernel)))⟩
  rcases List.mem_cons.mp hj with rfl | hj
  · exact ⟨"there is no such show", (tm_2 (List.mem_of_getElem? (i := 99) (by decide +kernel)))⟩
  rcases List.mem_cons.mp hj with rfl | hj
  · exact ⟨"there is no such song", (tm_2 (List.mem_of_getElem? (i := 70) (by decide +kernel)))⟩
  rcases List.mem_cons.mp hj with rfl | hj
  · exact ⟨"there is no such listener", (tm_3 (List.mem_of_getElem? (i := 88) (by decide +kernel)))⟩
  rcases List.mem_cons.mp hj with rfl | hj
  · exact ⟨"rule is out of range", (tm_4 (List.mem_of_getElem? (i := 127) (by decide +kernel)))⟩
  rcases List.mem_cons.mp hj with rfl | hj
  · exact ⟨"there is no such item", (tm_2 (List.mem_of_getElem? (i := 181) (by decide +kernel)))⟩
  rcases List.mem_cons.mp hj with rfl | hj
  · exact ⟨"there is no such app", (tm_3 (List.mem_of_getElem? (i := 21) (by decide +kernel)))⟩
  rcases List.mem_cons.mp hj with rfl | hj
  · exact ⟨"there is no such campaign", (tm_4 (List.mem_of_getElem? (i := 72) (by decide +kernel)))⟩
  rcases List.mem_cons.mp hj with rfl | hj
  · exact ⟨"there is no such download", (tm_3 (List.mem_of_getElem? (i := 202) (by decide +kernel)))⟩
  rcases List.mem_cons.mp hj with rfl | hj
  · exact ⟨"the draft has too many parts", (tm_1 (List.mem_of_getElem? (i := 223) (by decide +kernel)))⟩
  cases hj
def flX7 : List (Nat × (Nat × Nat × FieldType × Nat)) := [(10, (8, 0, .object "java/util/ArrayList", 1)), (16, (8, 1, .object "java/util/ArrayList", 1)), (19, (8, 2, .object "java/util/ArrayList", 1)), (22, (8, 3, .object "java/util/ArrayList", 1)), (25, (8, 4, .object "java/util/ArrayList", 1)), (28, (8, 5, .object "java/util/ArrayList", 0)), (31, (8, 6, .int, 0)), (35, (8, 7, .int, 0)), (38, (8, 8, .int, 0)), (41, (8, 9, .int, 0)), (111, (4, 0, .int, 2)), (125, (5, 3, .boolean, 0)), (129, (4, 4, .boolean, 0)), (161, (1, 1, .object "java/util/ArrayList", 2)), (167, (1, 2, .int, 0)), (175, (4, 1, .int, 2)), (178, (1, 0, .int, 2)), (192, (2, 7, .int, 0)), (207, (4, 3, .object "java/util/ArrayList", 2)), (214, (3, 0, .int, 2)), (219, (3, 6, .int, 0)), (228, (3, 7, .int, 0)), (234, (5, 4, .int, 0)), (237, (4, 2, .int, 2)), (249, (5, 0, .int, 2)), (252, (5, 1, .int, 2)), (253, (5, 2, .int, 2)), (265, (2, 8, .int, 0)), (275, (3, 1, .int, 2)), (278, (3, 2, .int, 2)), (281, (3, 3, .int, 2)), (282, (3, 4, .object "java/util/ArrayList", 2)), (295, (6, 4, .int, 2)), (338, (3, 8, .int, 0)), (341, (3, 9, .int, 0)), (344, (2, 1, .int, 2)), (347, (2, 2, .int, 2)), (348, (2, 0, .int, 2)), (358, (2, 6, .int, 2))]
def mtX7 : List (Nat × (Nat × Nat × Nat × Nat × za_M)) := [(1, (4, 0, 0, 0, mX7_isIn)), (9, (2, 0, 0, 3, mJx4a65c_init_da8c8)), (44, (1, 3, 0, 0, mX7_isIn)), (57, (2, 3, 0, 1, mX4_init)), (60, (0, 1, 8, 7, mX7_addToDraft)), (64, (1, 1, 0, 6, mX7_needSong)), (68, (1, 2, 0, 0, mX7_hasBit)), (79, (1, 1, 0, 6, mX7_needShow)), (84, (0, 0, 8, 3, mX7_isDraftOfUse)), (88, (0, 0, 0, 0, mJx4a65c_size_8abf5)), (96, (2, 4, 0, 1, mX3_init)), (99, (0, 1, 0, 6, mJx4a65c_add_9ea2d)), (103, (0, 1, 8, 4, mX7_cutWhatIsOut)), (107, (0, 1, 8, 7, mX7_noteChange)), (114, (0, 1, 8, 6, mX7_itemAt)), (118, (0, 1, 4, 6, mX3_partAt)), (122, (0, 0, 4, 3, mX3_uncutParts)), (136, (1, 2, 0, 0, mX7_withBit)), (140, (0, 1, 0, 2, mJx4a65c_get_915e3)), (148, (0, 0, 8, 7, mX7_releaseItemsOfThisHour)), (155, (2, 1, 0, 4, mX0_init)), (157, (0, 1, 8, 6, mX7_appAt)), (164, (0, 0, 0, 0, mJx4a65c_clear_da8c8)), (170, (5, 2, 0, 0, mX7_isIn)), (189, (2, 7, 0, 1, mX1_init)), (193, (1, 1, 0, 6, mX7_needListener)), (196, (0, 1, 8, 0, mX7_isReleased)), (204, (2, 4, 0, 4, mX2_init)), (210, (0, 3, 8, 8, mX7_addToDownload)), (215, (0, 1, 8, 6, mX7_downloadAt)), (224, (0, 2, 3, 7, mX2_addRange)), (231, (0, 2, 8, 5, mX7_wantsCorrection)), (240, (0, 0, 4, 3, mX3_uncutSeconds)), (243, (0, 1, 8, 3, mX7_downloadsOf)), (261, (0, 1, 8, 6, mX7_campaignAt)), (268, (0, 1, 2, 0, mX1_dueIn)), (271, (0, 1, 8, 6, mX7_adsHeard)), (285, (0, 2, 8, 5, mX7_reach)), (288, (0, 1, 3, 3, mX2_secondBehind)), (298, (0, 2, 3, 4, mX2_loadedIn)), (301, (1, 1, 0, 6, mX7_needRule)), (304, (0, 2, 8, 4, mX7_isCounted)), (326, (0, 1, 8, 1, mX7_isOut)), (330, (0, 2, 8, 5, mX7_adFor)), (334, (0, 4, 3, 7, mX2_addPiece)), (351, (0, 2, 8, 4, mX7_isAllowed)), (355, (0, 2, 8, 3, mX7_adsToday)), (361, (0, 1, 3, 5, mX2_hasWholeAd)), (365, (0, 1, 8, 3, mX7_isCountedStrictly)), (369, (0, 0, 3, 1, mX2_isLoadedEnough)), (372, (0, 2, 3, 0, mX2_isOf)), (375, (0, 0, 3, 4, mX2_reach)), (377, (0, 0, 3, 4, mX2_hasLoadedUntoldCut))]
def nwX7 : List (Nat × (Nat × List Value)) := [(7, (0, [.int (nI 0), .null, .int (nI 0)])), (55, (5, [.int (nI 0), .int (nI 0), .int (nI 0), .int (nI 0), .int (nI 0)])), (94, (4, [.int (nI 0), .int (nI 0), .int (nI 0), .null, .int (nI 0)])), (153, (1, [.int (nI 0), .null, .int (nI 0)])), (187, (2, [.int (nI 0), .int (nI 0), .int (nI 0), .int (nI 0), .int (nI 0), .int (nI 0), .int (nI 0), .int (nI 0), .int (nI 0)])), (202, (3, [.int (nI 0), .int (nI 0), .int (nI 0), .int (nI 0), .null, .null, .int (nI 0), .int (nI 0), .int (nI 0), .int (nI 0)]))]
def thX7 : List (Nat × (Nat × Nat)) := [(48, (0, 52)), (72, (1, 76)), (256, (2, 260))]
def ckX7 : List (Nat × Nat) := [(55, 5), (94, 4), (153, 1), (187, 2), (202, 3), (293, 6)]
def lkX7 : za_LK := (za_lu flX7, za_lu mtX7, za_lu nwX7, za_lu thX7, (fun i => ([50, 74, 77, 82, 92, 132, 134, 144, 146, 151, 179, 181, 183, 185, 200, 222, 247, 258, 291, 308, 310, 312, 314, 316, 318, 320, 322, 324] : List Nat).elem i), za_lu ckX7)
theorem okX7 : za_lk RX7 lkX7 := ⟨za_lu_ok (l := flX7) (Q := fun i q => za_fl RX7 i q.1 q.2.1 q.2.2.1 q.2.2.2) (za_cons lfX7_10 (za_cons lfX7_16 (za_cons lfX7_19 (za_cons lfX7_22 (za_cons lfX7_25 (za_cons lfX7_28 (za_cons lfX7_31 (za_cons lfX7_35 (za_cons lfX7_38 (za_cons lfX7_41 (za_cons lfX7_111 (za_cons lfX7_125 (za_cons lfX7_129 (za_cons lfX7_161 (za_cons lfX7_167 (za_cons lfX7_175 (za_cons lfX7_178 (za_cons lfX7_192 (za_cons lfX7_207 (za_cons lfX7_214 (za_cons lfX7_219 (za_cons lfX7_228 (za_cons lfX7_234 (za_cons lfX7_237 (za_cons lfX7_249 (za_cons lfX7_252 (za_cons lfX7_253 (za_cons lfX7_265 (za_cons lfX7_275 (za_cons lfX7_278 (za_cons lfX7_281 (za_cons lfX7_282 (za_cons lfX7_295 (za_cons lfX7_338 (za_cons lfX7_341 (za_cons lfX7_344 (za_cons lfX7_347 (za_cons lfX7_348 (za_cons lfX7_358 za_nil))))))))))))))))))))))))))))))))))))))), za_lu_ok (l := mtX7) (Q := za_okm RX7) (za_cons lmX7_1 (za_cons lmX7_9 (za_cons lmX7_44 (za_cons lmX7_57 (za_cons lmX7_60 (za_cons lmX7_64 (za_cons lmX7_68 (za_cons lmX7_79 (za_cons lmX7_84 (za_cons lmX7_88 (za_cons lmX7_96 (za_cons lmX7_99 (za_cons lmX7_103 (za_cons lmX7_107 (za_cons lmX7_114 (za_cons lmX7_118 (za_cons lmX7_122 (za_cons lmX7_136 (za_cons lmX7_140 (za_cons lmX7_148 (za_cons lmX7_155 (za_cons lmX7_157 (za_cons lmX7_164 (za_cons lmX7_170 (za_cons lmX7_189 (za_cons lmX7_193 (za_cons lmX7_196 (za_cons lmX7_204 (za_cons lmX7_210 (za_cons lmX7_215 (za_cons lmX7_224 (za_cons lmX7_231 (za_cons lmX7_240 (za_cons lmX7_243 (za_cons lmX7_261 (za_cons lmX7_268 (za_cons lmX7_271 (za_cons lmX7_285 (za_cons lmX7_288 (za_cons lmX7_298 (za_cons lmX7_301 (za_cons lmX7_304 (za_cons lmX7_326 (za_cons lmX7_330 (za_cons lmX7_334 (za_cons lmX7_351 (za_cons lmX7_355 (za_cons lmX7_361 (za_cons lmX7_365 (za_cons lmX7_369 (za_cons lmX7_372 (za_cons lmX7_375 (za_cons lmX7_377 za_nil))))))))))))))))))))))))))))))))))))))))))))))))))))), za_lu_ok (l := nwX7) (Q := fun i q => za_nl RX7 i q.1 q.2) (za_cons lnX7_7 (za_cons lnX7_55 (za_cons lnX7_94 (za_cons lnX7_153 (za_cons lnX7_187 (za_cons lnX7_202 za_nil)))))), fun i q j h hj => za_lu_ok (l := thX7) (Q := fun i q => ∀ j, ([50, 74, 77, 82, 92, 132, 134, 144, 146, 151, 179, 181, 183, 185, 200, 222, 247, 258, 291, 308, 310, 312, 314, 316, 318, 320, 322, 324] : List Nat).elem j = true → za_tl RX7 i j q.2 q.1) (za_cons (fun j hj => ltX7_48 j (List.elem_iff.mp hj)) (za_cons (fun j hj => ltX7_72 j (List.elem_iff.mp hj)) (za_cons (fun j hj => ltX7_256 j (List.elem_iff.mp hj)) za_nil))) i q h j hj, za_lu_ok (l := ckX7) (Q := fun i ci => ∃ r, vwCl[ci]? = some r ∧ Jvm.Cond.classLink RX7 i r.1 ∈ lw_tbl) (za_cons ⟨_, rfl, (tm_1 (List.mem_of_getElem? (i := 174) (by decide +kernel)))⟩ (za_cons ⟨_, rfl, (tm_2 (List.mem_of_getElem? (i := 124) (by decide +kernel)))⟩ (za_cons ⟨_, rfl, (tm_2 (List.mem_of_getElem? (i := 229) (by decide +kernel)))⟩ (za_cons ⟨_, rfl, (tm_3 (List.mem_of_getElem? (i := 38) (by decide +kernel)))⟩ (za_cons ⟨_, rfl, (tm_3 (List.mem_of_getElem? (i := 90) (by decide +kernel)))⟩ (za_cons ⟨_, rfl, (tm_4 (List.mem_of_getElem? (i := 108) (by decide +kernel)))⟩ za_nil))))))⟩
theorem uX7_f10 : za_LK.fl lkX7 10 = some (8, 0, .object "java/util/ArrayList", 1) := rfl
theorem uX7_f16 : za_LK.fl lkX7 16 = some (8, 1, .object "java/util/ArrayList", 1) := rfl
theorem uX7_f19 : za_LK.fl lkX7 19 = some (8, 2, .object "java/util/ArrayList", 1) := rfl
theorem uX7_f22 : za_LK.fl lkX7 22 = some (8, 3, .object "java/util/ArrayList", 1) := rfl
theorem uX7_f25 : za_LK.fl lkX7 25 = some (8, 4, .object "java/util/ArrayList", 1) := rfl
theorem uX7_f28 : za_LK.fl lkX7 28 = some (8, 5, .object "java/util/ArrayList", 0) := rfl
theorem uX7_f31 : za_LK.fl lkX7 31 = some (8, 6, .int, 0) := rfl
theorem uX7_f35 : za_LK.fl lkX7 35 = some (8, 7, .int, 0) := rfl
theorem uX7_f38 : za_LK.fl lkX7 38 = some (8, 8, .int, 0) := rfl
theorem uX7_f41 : za_LK.fl lkX7 41 = some (8, 9, .int, 0) := rfl
theorem uX7_f111 : za_LK.fl lkX7 111 = some (4, 0, .int, 2) := rfl
theorem uX7_f125 : za_LK.fl lkX7 125 = some (5, 3, .boolean, 0) := rfl
theorem uX7_f129 : za_LK.fl lkX7 129 = some (4, 4, .boolean, 0) := rfl
theorem uX7_f161 : za_LK.fl lkX7 161 = some (1, 1, .object "java/util/ArrayList", 2) := rfl
theorem uX7_f167 : za_LK.fl lkX7 167 = some (1, 2, .int, 0) := rfl
theorem uX7_f175 : za_LK.fl lkX7 175 = some (4, 1, .int, 2) := rfl
theorem uX7_f178 : za_LK.fl lkX7 178 = some (1, 0, .int, 2) := rfl
theorem uX7_f192 : za_LK.fl lkX7 192 = some (2, 7, .int, 0) := rfl
theorem uX7_f207 : za_LK.fl lkX7 207 = some (4, 3, .object "java/util/ArrayList", 2) := rfl
theorem uX7_f214 : za_LK.fl lkX7 214 = some (3, 0, .int, 2) := rfl
theorem uX7_f219 : za_LK.fl lkX7 219 = some (3, 6, .int, 0) := rfl
theorem uX7_f228 : za_LK.fl lkX7 228 = some (3, 7, .int, 0) := rfl
theorem uX7_f234 : za_LK.fl lkX7 234 = some (5, 4, .int, 0) := rfl
theorem uX7_f237 : za_LK.fl lkX7 237 = some (4, 2, .int, 2) := rfl
theorem uX7_f249 : za_LK.fl lkX7 249 = some (5, 0, .int, 2) := rfl
theorem uX7_f252 : za_LK.fl lkX7 252 = some (5, 1, .int, 2) := rfl
theorem uX7_f253 : za_LK.fl lkX7 253 = some (5, 2, .int, 2) := rfl
theorem uX7_f265 : za_LK.fl lkX7 265 = some (2, 8, .int, 0) := rfl
theorem uX7_f275 : za_LK.fl lkX7 275 = some (3, 1, .int, 2) := rfl
theorem uX7_f278 : za_LK.fl lkX7 278 = some (3, 2, .int, 2) := rfl
theorem uX7_f281 : za_LK.fl lkX7 281 = some (3, 3, .int, 2) := rfl
theorem uX7_f282 : za_LK.fl lkX7 282 = some (3, 4, .object "java/util/ArrayList", 2) := rfl
theorem uX7_f295 : za_LK.fl lkX7 295 = some (6, 4, .int, 2) := rfl
theorem uX7_f338 : za_LK.fl lkX7 338 = some (3, 8, .int, 0) := rfl
theorem uX7_f341 : za_LK.fl lkX7 341 = some (3, 9, .int, 0) := rfl
theorem uX7_f344 : za_LK.fl lkX7 344 = some (2, 1, .int, 2) := rfl
theorem uX7_f347 : za_LK.fl lkX7 347 = some (2, 2, .int, 2) := rfl
theorem uX7_f348 : za_LK.fl lkX7 348 = some (2, 0, .int, 2) := rfl
theorem uX7_f358 : za_LK.fl lkX7 358 = some (2, 6, .int, 2) := rfl
theorem uX7_m1 : za_LK.mt lkX7 1 = some (4, 0, 0, 0, mX7_isIn) := rfl
theorem uX7_m9 : za_LK.mt lkX7 9 = some (2, 0, 0, 3, mJx4a65c_init_da8c8) := rfl
theorem uX7_m44 : za_LK.mt lkX7 44 = some (1, 3, 0, 0, mX7_isIn) := rfl
theorem uX7_m57 : za_LK.mt lkX7 57 = some (2, 3, 0, 1, mX4_init) := rfl
theorem uX7_m60 : za_LK.mt lkX7 60 = some (0, 1, 8, 7, mX7_addToDraft) := rfl
theorem uX7_m64 : za_LK.mt lkX7 64 = some (1, 1, 0, 6, mX7_needSong) := rfl
theorem uX7_m68 : za_LK.mt lkX7 68 = some (1, 2, 0, 0, mX7_hasBit) := rfl
theorem uX7_m79 : za_LK.mt lkX7 79 = some (1, 1, 0, 6, mX7_needShow) := rfl
theorem uX7_m84 : za_LK.mt lkX7 84 = some (0, 0, 8, 3, mX7_isDraftOfUse) := rfl
theorem uX7_m88 : za_LK.mt lkX7 88 = some (0, 0, 0, 0, mJx4a65c_size_8abf5) := rfl
theorem uX7_m96 : za_LK.mt lkX7 96 = some (2, 4, 0, 1, mX3_init) := rfl
theorem uX7_m99 : za_LK.mt lkX7 99 = some (0, 1, 0, 6, mJx4a65c_add_9ea2d) := rfl
theorem uX7_m103 : za_LK.mt lkX7 103 = some (0, 1, 8, 4, mX7_cutWhatIsOut) := rfl
theorem uX7_m107 : za_LK.mt lkX7 107 = some (0, 1, 8, 7, mX7_noteChange) := rfl
theorem uX7_m114 : za_LK.mt lkX7 114 = some (0, 1, 8, 6, mX7_itemAt) := rfl
theorem uX7_m118 : za_LK.mt lkX7 118 = some (0, 1, 4, 6, mX3_partAt) := rfl
theorem uX7_m122 : za_LK.mt lkX7 122 = some (0, 0, 4, 3, mX3_uncutParts) := rfl
theorem uX7_m136 : za_LK.mt lkX7 136 = some (1, 2, 0, 0, mX7_withBit) := rfl
theorem uX7_m140 : za_LK.mt lkX7 140 = some (0, 1, 0, 2, mJx4a65c_get_915e3) := rfl
theorem uX7_m148 : za_LK.mt lkX7 148 = some (0, 0, 8, 7, mX7_releaseItemsOfThisHour) := rfl
theorem uX7_m155 : za_LK.mt lkX7 155 = some (2, 1, 0, 4, mX0_init) := rfl
theorem uX7_m157 : za_LK.mt lkX7 157 = some (0, 1, 8, 6, mX7_appAt) := rfl
theorem uX7_m164 : za_LK.mt lkX7 164 = some (0, 0, 0, 0, mJx4a65c_clear_da8c8) := rfl
theorem uX7_m170 : za_LK.mt lkX7 170 = some (5, 2, 0, 0, mX7_isIn) := rfl
theorem uX7_m189 : za_LK.mt lkX7 189 = some (2, 7, 0, 1, mX1_init) := rfl
theorem uX7_m193 : za_LK.mt lkX7 193 = some (1, 1, 0, 6, mX7_needListener) := rfl
theorem uX7_m196 : za_LK.mt lkX7 196 = some (0, 1, 8, 0, mX7_isReleased) := rfl
theorem uX7_m204 : za_LK.mt lkX7 204 = some (2, 4, 0, 4, mX2_init) := rfl
theorem uX7_m210 : za_LK.mt lkX7 210 = some (0, 3, 8, 8, mX7_addToDownload) := rfl
theorem uX7_m215 : za_LK.mt lkX7 215 = some (0, 1, 8, 6, mX7_downloadAt) := rfl
theorem uX7_m224 : za_LK.mt lkX7 224 = some (0, 2, 3, 7, mX2_addRange) := rfl
theorem uX7_m231 : za_LK.mt lkX7 231 = some (0, 2, 8, 5, mX7_wantsCorrection) := rfl
theorem uX7_m240 : za_LK.mt lkX7 240 = some (0, 0, 4, 3, mX3_uncutSeconds) := rfl
theorem uX7_m243 : za_LK.mt lkX7 243 = some (0, 1, 8, 3, mX7_downloadsOf) := rfl
theorem uX7_m261 : za_LK.mt lkX7 261 = some (0, 1, 8, 6, mX7_campaignAt) := rfl
theorem uX7_m268 : za_LK.mt lkX7 268 = some (0, 1, 2, 0, mX1_dueIn) := rfl
theorem uX7_m271 : za_LK.mt lkX7 271 = some (0, 1, 8, 6, mX7_adsHeard) := rfl
theorem uX7_m285 : za_LK.mt lkX7 285 = some (0, 2, 8, 5, mX7_reach) := rfl
theorem uX7_m288 : za_LK.mt lkX7 288 = some (0, 1, 3, 3, mX2_secondBehind) := rfl
theorem uX7_m298 : za_LK.mt lkX7 298 = some (0, 2, 3, 4, mX2_loadedIn) := rfl
theorem uX7_m301 : za_LK.mt lkX7 301 = some (1, 1, 0, 6, mX7_needRule) := rfl
theorem uX7_m304 : za_LK.mt lkX7 304 = some (0, 2, 8, 4, mX7_isCounted) := rfl
theorem uX7_m326 : za_LK.mt lkX7 326 = some (0, 1, 8, 1, mX7_isOut) := rfl
theorem uX7_m330 : za_LK.mt lkX7 330 = some (0, 2, 8, 5, mX7_adFor) := rfl
theorem uX7_m334 : za_LK.mt lkX7 334 = some (0, 4, 3, 7, mX2_addPiece) := rfl
theorem uX7_m351 : za_LK.mt lkX7 351 = some (0, 2, 8, 4, mX7_isAllowed) := rfl
theorem uX7_m355 : za_LK.mt lkX7 355 = some (0, 2, 8, 3, mX7_adsToday) := rfl
theorem uX7_m361 : za_LK.mt lkX7 361 = some (0, 1, 3, 5, mX2_hasWholeAd) := rfl
theorem uX7_m365 : za_LK.mt lkX7 365 = some (0, 1, 8, 3, mX7_isCountedStrictly) := rfl
theorem uX7_m369 : za_LK.mt lkX7 369 = some (0, 0, 3, 1, mX2_isLoadedEnough) := rfl
theorem uX7_m372 : za_LK.mt lkX7 372 = some (0, 2, 3, 0, mX2_isOf) := rfl
theorem uX7_m375 : za_LK.mt lkX7 375 = some (0, 0, 3, 4, mX2_reach) := rfl
theorem uX7_m377 : za_LK.mt lkX7 377 = some (0, 0, 3, 4, mX2_hasLoadedUntoldCut) := rfl
theorem uX7_n7 : za_LK.nw lkX7 7 = some (0, [.int (nI 0), .null, .int (nI 0)]) := rfl
theorem uX7_n55 : za_LK.nw lkX7 55 = some (5, [.int (nI 0), .int (nI 0), .int (nI 0), .int (nI 0), .int (nI 0)]) := rfl
theorem uX7_n94 : za_LK.nw lkX7 94 = some (4, [.int (nI 0), .int (nI 0), .int (nI 0), .null, .int (nI 0)]) := rfl
theorem uX7_n153 : za_LK.nw lkX7 153 = some (1, [.int (nI 0), .null, .int (nI 0)]) := rfl
theorem uX7_n187 : za_LK.nw lkX7 187 = some (2, [.int (nI 0), .int (nI 0), .int (nI 0), .int (nI 0), .int (nI 0), .int (nI 0), .int (nI 0), .int (nI 0), .int (nI 0)]) := rfl
theorem uX7_n202 : za_LK.nw lkX7 202 = some (3, [.int (nI 0), .int (nI 0), .int (nI 0), .int (nI 0), .null, .null, .int (nI 0), .int (nI 0), .int (nI 0), .int (nI 0)]) := rfl
theorem uX7_n48 : za_LK.nw lkX7 48 = none := rfl
theorem uX7_t48 : za_LK.th lkX7 48 = some (0, 52) := rfl
theorem uX7_n72 : za_LK.nw lkX7 72 = none := rfl
theorem uX7_t72 : za_LK.th lkX7 72 = some (1, 76) := rfl
theorem uX7_n256 : za_LK.nw lkX7 256 = none := rfl
theorem uX7_t256 : za_LK.th lkX7 256 = some (2, 260) := rfl
theorem uX7_s50 : za_LK.sx lkX7 50 = true := rfl
theorem uX7_s74 : za_LK.sx lkX7 74 = true := rfl
theorem uX7_s77 : za_LK.sx lkX7 77 = true := rfl
theorem uX7_s82 : za_LK.sx lkX7 82 = true := rfl
theorem uX7_s92 : za_LK.sx lkX7 92 = true := rfl
theorem uX7_s132 : za_LK.sx lkX7 132 = true := rfl
theorem uX7_s134 : za_LK.sx lkX7 134 = true := rfl
theorem uX7_s144 : za_LK.sx lkX7 144 = true := rfl
theorem uX7_s146 : za_LK.sx lkX7 146 = true := rfl
theorem uX7_s151 : za_LK.sx lkX7 151 = true := rfl
theorem uX7_s179 : za_LK.sx lkX7 179 = true := rfl
theorem uX7_s181 : za_LK.sx lkX7 181 = true := rfl
theorem uX7_s183 : za_LK.sx lkX7 183 = true := rfl
theorem uX7_s185 : za_LK.sx lkX7 185 = true := rfl
theorem uX7_s200 : za_LK.sx lkX7 200 = true := rfl
theorem uX7_s222 : za_LK.sx lkX7 222 = true := rfl
theorem uX7_s247 : za_LK.sx lkX7 247 = true := rfl
theorem uX7_s258 : za_LK.sx lkX7 258 = true := rfl
theorem uX7_s291 : za_LK.sx lkX7 291 = true := rfl
theorem uX7_s308 : za_LK.sx lkX7 308 = true := rfl
theorem uX7_s310 : za_LK.sx lkX7 310 = true := rfl
theorem uX7_s312 : za_LK.sx lkX7 312 = true := rfl
theorem uX7_s314 : za_LK.sx lkX7 314 = true := rfl
theorem uX7_s316 : za_LK.sx lkX7 316 = true := rfl
theorem uX7_s318 : za_LK.sx lkX7 318 = true := rfl
theorem uX7_s320 : za_LK.sx lkX7 320 = true := rfl
theorem uX7_s322 : za_LK.sx lkX7 322 = true := rfl
theorem uX7_s324 : za_LK.sx lkX7 324 = true := rfl
theorem uX7_c55 : za_LK.ck lkX7 55 = some 5 := rfl
theorem uX7_c94 : za_LK.ck lkX7 94 = some 4 := rfl
theorem uX7_c153 : za_LK.ck lkX7 153 = some 1 := rfl
theorem uX7_c187 : za_LK.ck lkX7 187 = some 2 := rfl
theorem uX7_c202 : za_LK.ck lkX7 202 = some 3 := rfl
theorem uX7_c293 : za_LK.ck lkX7 293 = some 6 := rfl
