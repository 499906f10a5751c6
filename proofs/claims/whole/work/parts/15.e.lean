theorem lmX8_1 : za_okm RX8 1 (4, 0, 0, 0, mX7_isIn) := ⟨rfl, (tm_4 (List.mem_of_getElem? (i := 159) (by decide +kernel))), (tm_1 (List.mem_of_getElem? (i := 31) (by decide +kernel))), (tm_1 (List.mem_of_getElem? (i := 32) (by decide +kernel)))⟩
theorem lfX8_7 : za_fl RX8 7 9 2 (.array .int) 1 := ⟨_, _, _, "FeedTowerModel", tyX8, rfl, by decide, (tm_4 (List.mem_of_getElem? (i := 163) (by decide +kernel))), Or.inl rfl, uwX8, tyX8_ok, nmX8, rfl, (fun h => by cases h), fun _ => ⟨rfl, rfl⟩⟩
theorem lfX8_13 : za_fl RX8 13 9 3 (.array .int) 1 := ⟨_, _, _, "FeedTowerModel", tyX8, rfl, by decide, (tm_4 (List.mem_of_getElem? (i := 164) (by decide +kernel))), Or.inl rfl, uwX8, tyX8_ok, nmX8, rfl, (fun h => by cases h), fun _ => ⟨rfl, rfl⟩⟩
theorem lfX8_16 : za_fl RX8 16 9 4 (.array .int) 1 := ⟨_, _, _, "FeedTowerModel", tyX8, rfl, by decide, (tm_4 (List.mem_of_getElem? (i := 165) (by decide +kernel))), Or.inl rfl, uwX8, tyX8_ok, nmX8, rfl, (fun h => by cases h), fun _ => ⟨rfl, rfl⟩⟩
theorem lfX8_19 : za_fl RX8 19 9 5 (.array .boolean) 1 := ⟨_, _, _, "FeedTowerModel", tyX8, rfl, by decide, (tm_4 (List.mem_of_getElem? (i := 166) (by decide +kernel))), Or.inl rfl, uwX8, tyX8_ok, nmX8, rfl, (fun h => by cases h), fun _ => ⟨rfl, rfl⟩⟩
theorem lfX8_23 : za_fl RX8 23 9 7 (.array .int) 1 := ⟨_, _, _, "FeedTowerModel", tyX8, rfl, by decide, (tm_4 (List.mem_of_getElem? (i := 168) (by decide +kernel))), Or.inl rfl, uwX8, tyX8_ok, nmX8, rfl, (fun h => by cases h), fun _ => ⟨rfl, rfl⟩⟩
theorem lfX8_26 : za_fl RX8 26 9 8 (.array .int) 1 := ⟨_, _, _, "FeedTowerModel", tyX8, rfl, by decide, (tm_4 (List.mem_of_getElem? (i := 169) (by decide +kernel))), Or.inl rfl, uwX8, tyX8_ok, nmX8, rfl, (fun h => by cases h), fun _ => ⟨rfl, rfl⟩⟩
theorem lfX8_29 : za_fl RX8 29 9 9 (.array .boolean) 1 := ⟨_, _, _, "FeedTowerModel", tyX8, rfl, by decide, (tm_4 (List.mem_of_getElem? (i := 170) (by decide +kernel))), Or.inl rfl, uwX8, tyX8_ok, nmX8, rfl, (fun h => by cases h), fun _ => ⟨rfl, rfl⟩⟩
theorem lfX8_32 : za_fl RX8 32 9 10 (.array .boolean) 1 := ⟨_, _, _, "FeedTowerModel", tyX8, rfl, by decide, (tm_4 (List.mem_of_getElem? (i := 171) (by decide +kernel))), Or.inl rfl, uwX8, tyX8_ok, nmX8, rfl, (fun h => by cases h), fun _ => ⟨rfl, rfl⟩⟩
theorem lfX8_35 : za_fl RX8 35 9 11 (.array .int) 1 := ⟨_, _, _, "FeedTowerModel", tyX8, rfl, by decide, (tm_4 (List.mem_of_getElem? (i := 172) (by decide +kernel))), Or.inl rfl, uwX8, tyX8_ok, nmX8, rfl, (fun h => by cases h), fun _ => ⟨rfl, rfl⟩⟩
theorem lfX8_38 : za_fl RX8 38 9 12 (.array .int) 1 := ⟨_, _, _, "FeedTowerModel", tyX8, rfl, by decide, (tm_4 (List.mem_of_getElem? (i := 173) (by decide +kernel))), Or.inl rfl, uwX8, tyX8_ok, nmX8, rfl, (fun h => by cases h), fun _ => ⟨rfl, rfl⟩⟩
theorem lfX8_41 : za_fl RX8 41 9 13 (.array .int) 1 := ⟨_, _, _, "FeedTowerModel", tyX8, rfl, by decide, (tm_4 (List.mem_of_getElem? (i := 174) (by decide +kernel))), Or.inl rfl, uwX8, tyX8_ok, nmX8, rfl, (fun h => by cases h), fun _ => ⟨rfl, rfl⟩⟩
theorem lfX8_44 : za_fl RX8 44 9 14 (.array .int) 1 := ⟨_, _, _, "FeedTowerModel", tyX8, rfl, by decide, (tm_4 (List.mem_of_getElem? (i := 175) (by decide +kernel))), Or.inl rfl, uwX8, tyX8_ok, nmX8, rfl, (fun h => by cases h), fun _ => ⟨rfl, rfl⟩⟩
theorem lfX8_47 : za_fl RX8 47 9 15 (.array .boolean) 1 := ⟨_, _, _, "FeedTowerModel", tyX8, rfl, by decide, (tm_4 (List.mem_of_getElem? (i := 176) (by decide +kernel))), Or.inl rfl, uwX8, tyX8_ok, nmX8, rfl, (fun h => by cases h), fun _ => ⟨rfl, rfl⟩⟩
theorem lfX8_50 : za_fl RX8 50 9 17 (.array .int) 1 := ⟨_, _, _, "FeedTowerModel", tyX8, rfl, by decide, (tm_4 (List.mem_of_getElem? (i := 178) (by decide +kernel))), Or.inl rfl, uwX8, tyX8_ok, nmX8, rfl, (fun h => by cases h), fun _ => ⟨rfl, rfl⟩⟩
theorem lfX8_53 : za_fl RX8 53 9 19 (.array .int) 1 := ⟨_, _, _, "FeedTowerModel", tyX8, rfl, by decide, (tm_4 (List.mem_of_getElem? (i := 180) (by decide +kernel))), Or.inl rfl, uwX8, tyX8_ok, nmX8, rfl, (fun h => by cases h), fun _ => ⟨rfl, rfl⟩⟩
theorem lfX8_56 : za_fl RX8 56 9 20 (.array .int) 1 := ⟨_, _, _, "FeedTowerModel", tyX8, rfl, by decide, (tm_4 (List.mem_of_getElem? (i := 181) (by decide +kernel))), Or.inl rfl, uwX8, tyX8_ok, nmX8, rfl, (fun h => by cases h), fun _ => ⟨rfl, rfl⟩⟩
theorem lfX8_59 : za_fl RX8 59 9 21 (.array .int) 1 := ⟨_, _, _, "FeedTowerModel", tyX8, rfl, by decide, (tm_4 (List.mem_of_getElem? (i := 182) (by decide +kernel))), Or.inl rfl, uwX8, tyX8_ok, nmX8, rfl, (fun h => by cases h), fun _ => ⟨rfl, rfl⟩⟩
theorem lfX8_62 : za_fl RX8 62 9 22 (.array .int) 1 := ⟨_, _, _, "FeedTowerModel", tyX8, rfl, by decide, (tm_4 (List.mem_of_getElem? (i := 183) (by decide +kernel))), Or.inl rfl, uwX8, tyX8_ok, nmX8, rfl, (fun h => by cases h), fun _ => ⟨rfl, rfl⟩⟩
theorem lfX8_65 : za_fl RX8 65 9 24 (.array .int) 1 := ⟨_, _, _, "FeedTowerModel", tyX8, rfl, by decide, (tm_4 (List.mem_of_getElem? (i := 185) (by decide +kernel))), Or.inl rfl, uwX8, tyX8_ok, nmX8, rfl, (fun h => by cases h), fun _ => ⟨rfl, rfl⟩⟩
theorem lfX8_68 : za_fl RX8 68 9 25 (.array .int) 1 := ⟨_, _, _, "FeedTowerModel", tyX8, rfl, by decide, (tm_4 (List.mem_of_getElem? (i := 186) (by decide +kernel))), Or.inl rfl, uwX8, tyX8_ok, nmX8, rfl, (fun h => by cases h), fun _ => ⟨rfl, rfl⟩⟩
theorem lfX8_71 : za_fl RX8 71 9 26 (.array .int) 1 := ⟨_, _, _, "FeedTowerModel", tyX8, rfl, by decide, (tm_4 (List.mem_of_getElem? (i := 187) (by decide +kernel))), Or.inl rfl, uwX8, tyX8_ok, nmX8, rfl, (fun h => by cases h), fun _ => ⟨rfl, rfl⟩⟩
theorem lfX8_74 : za_fl RX8 74 9 27 (.array .int) 1 := ⟨_, _, _, "FeedTowerModel", tyX8, rfl, by decide, (tm_4 (List.mem_of_getElem? (i := 188) (by decide +kernel))), Or.inl rfl, uwX8, tyX8_ok, nmX8, rfl, (fun h => by cases h), fun _ => ⟨rfl, rfl⟩⟩
theorem lfX8_77 : za_fl RX8 77 9 28 (.array .int) 1 := ⟨_, _, _, "FeedTowerModel", tyX8, rfl, by decide, (tm_4 (List.mem_of_getElem? (i := 189) (by decide +kernel))), Or.inl rfl, uwX8, tyX8_ok, nmX8, rfl, (fun h => by cases h), fun _ => ⟨rfl, rfl⟩⟩
theorem lfX8_80 : za_fl RX8 80 9 29 (.array .int) 1 := ⟨_, _, _, "FeedTowerModel", tyX8, rfl, by decide, (tm_4 (List.mem_of_getElem? (i := 190) (by decide +kernel))), Or.inl rfl, uwX8, tyX8_ok, nmX8, rfl, (fun h => by cases h), fun _ => ⟨rfl, rfl⟩⟩
theorem lfX8_83 : za_fl RX8 83 9 30 (.array .int) 1 := ⟨_, _, _, "FeedTowerModel", tyX8, rfl, by decide, (tm_4 (List.mem_of_getElem? (i := 191) (by decide +kernel))), Or.inl rfl, uwX8, tyX8_ok, nmX8, rfl, (fun h => by cases h), fun _ => ⟨rfl, rfl⟩⟩
theorem lfX8_86 : za_fl RX8 86 9 31 (.array .int) 1 := ⟨_, _, _, "FeedTowerModel", tyX8, rfl, by decide, (tm_4 (List.mem_of_getElem? (i := 192) (by decide +kernel))), Or.inl rfl, uwX8, tyX8_ok, nmX8, rfl, (fun h => by cases h), fun _ => ⟨rfl, rfl⟩⟩
theorem lfX8_89 : za_fl RX8 89 9 32 (.array .boolean) 1 := ⟨_, _, _, "FeedTowerModel", tyX8, rfl, by decide, (tm_4 (List.mem_of_getElem? (i := 193) (by decide +kernel))), Or.inl rfl, uwX8, tyX8_ok, nmX8, rfl, (fun h => by cases h), fun _ => ⟨rfl, rfl⟩⟩
theorem lfX8_92 : za_fl RX8 92 9 33 (.array .boolean) 1 := ⟨_, _, _, "FeedTowerModel", tyX8, rfl, by decide, (tm_4 (List.mem_of_getElem? (i := 194) (by decide +kernel))), Or.inl rfl, uwX8, tyX8_ok, nmX8, rfl, (fun h => by cases h), fun _ => ⟨rfl, rfl⟩⟩
theorem lfX8_95 : za_fl RX8 95 9 35 (.array .int) 1 := ⟨_, _, _, "FeedTowerModel", tyX8, rfl, by decide, (tm_4 (List.mem_of_getElem? (i := 196) (by decide +kernel))), Or.inl rfl, uwX8, tyX8_ok, nmX8, rfl, (fun h => by cases h), fun _ => ⟨rfl, rfl⟩⟩
theorem lfX8_98 : za_fl RX8 98 9 36 (.array .int) 1 := ⟨_, _, _, "FeedTowerModel", tyX8, rfl, by decide, (tm_4 (List.mem_of_getElem? (i := 197) (by decide +kernel))), Or.inl rfl, uwX8, tyX8_ok, nmX8, rfl, (fun h => by cases h), fun _ => ⟨rfl, rfl⟩⟩
theorem lfX8_101 : za_fl RX8 101 9 37 (.array .int) 1 := ⟨_, _, _, "FeedTowerModel", tyX8, rfl, by decide, (tm_4 (List.mem_of_getElem? (i := 198) (by decide +kernel))), Or.inl rfl, uwX8, tyX8_ok, nmX8, rfl, (fun h => by cases h), fun _ => ⟨rfl, rfl⟩⟩
theorem lfX8_104 : za_fl RX8 104 9 38 (.array .int) 1 := ⟨_, _, _, "FeedTowerModel", tyX8, rfl, by decide, (tm_4 (List.mem_of_getElem? (i := 199) (by decide +kernel))), Or.inl rfl, uwX8, tyX8_ok, nmX8, rfl, (fun h => by cases h), fun _ => ⟨rfl, rfl⟩⟩
theorem lfX8_107 : za_fl RX8 107 9 39 (.array .int) 1 := ⟨_, _, _, "FeedTowerModel", tyX8, rfl, by decide, (tm_4 (List.mem_of_getElem? (i := 200) (by decide +kernel))), Or.inl rfl, uwX8, tyX8_ok, nmX8, rfl, (fun h => by cases h), fun _ => ⟨rfl, rfl⟩⟩
theorem lfX8_110 : za_fl RX8 110 9 40 (.array .int) 1 := ⟨_, _, _, "FeedTowerModel", tyX8, rfl, by decide, (tm_4 (List.mem_of_getElem? (i := 201) (by decide +kernel))), Or.inl rfl, uwX8, tyX8_ok, nmX8, rfl, (fun h => by cases h), fun _ => ⟨rfl, rfl⟩⟩
theorem lfX8_113 : za_fl RX8 113 9 41 (.array .int) 1 := ⟨_, _, _, "FeedTowerModel", tyX8, rfl, by decide, (tm_4 (List.mem_of_getElem? (i := 202) (by decide +kernel))), Or.inl rfl, uwX8, tyX8_ok, nmX8, rfl, (fun h => by cases h), fun _ => ⟨rfl, rfl⟩⟩
theorem lfX8_116 : za_fl RX8 116 9 42 (.array .int) 1 := ⟨_, _, _, "FeedTowerModel", tyX8, rfl, by decide, (tm_4 (List.mem_of_getElem? (i := 203) (by decide +kernel))), Or.inl rfl, uwX8, tyX8_ok, nmX8, rfl, (fun h => by cases h), fun _ => ⟨rfl, rfl⟩⟩
theorem lfX8_120 : za_fl RX8 120 9 43 (.array .boolean) 1 := ⟨_, _, _, "FeedTowerModel", tyX8, rfl, by decide, (tm_4 (List.mem_of_getElem? (i := 204) (by decide +kernel))), Or.inl rfl, uwX8, tyX8_ok, nmX8, rfl, (fun h => by cases h), fun _ => ⟨rfl, rfl⟩⟩
theorem lfX8_123 : za_fl RX8 123 9 44 (.array .boolean) 1 := ⟨_, _, _, "FeedTowerModel", tyX8, rfl, by decide, (tm_4 (List.mem_of_getElem? (i := 205) (by decide +kernel))), Or.inl rfl, uwX8, tyX8_ok, nmX8, rfl, (fun h => by cases h), fun _ => ⟨rfl, rfl⟩⟩
theorem lfX8_126 : za_fl RX8 126 9 46 (.array .int) 1 := ⟨_, _, _, "FeedTowerModel", tyX8, rfl, by decide, (tm_4 (List.mem_of_getElem? (i := 207) (by decide +kernel))), Or.inl rfl, uwX8, tyX8_ok, nmX8, rfl, (fun h => by cases h), fun _ => ⟨rfl, rfl⟩⟩
theorem lfX8_129 : za_fl RX8 129 9 47 (.array .int) 1 := ⟨_, _, _, "FeedTowerModel", tyX8, rfl, by decide, (tm_4 (List.mem_of_getElem? (i := 208) (by decide +kernel))), Or.inl rfl, uwX8, tyX8_ok, nmX8, rfl, (fun h => by cases h), fun _ => ⟨rfl, rfl⟩⟩
theorem lfX8_132 : za_fl RX8 132 9 48 (.array .int) 1 := ⟨_, _, _, "FeedTowerModel", tyX8, rfl, by decide, (tm_4 (List.mem_of_getElem? (i := 209) (by decide +kernel))), Or.inl rfl, uwX8, tyX8_ok, nmX8, rfl, (fun h => by cases h), fun _ => ⟨rfl, rfl⟩⟩
theorem lfX8_135 : za_fl RX8 135 9 49 (.int) 0 := ⟨_, _, _, "FeedTowerModel", tyX8, rfl, by decide, (tm_4 (List.mem_of_getElem? (i := 210) (by decide +kernel))), Or.inl rfl, uwX8, tyX8_ok, nmX8, rfl, fun _ => rfl, fun h => by cases h⟩
theorem lfX8_139 : za_fl RX8 139 9 6 (.int) 0 := ⟨_, _, _, "FeedTowerModel", tyX8, rfl, by decide, (tm_4 (List.mem_of_getElem? (i := 167) (by decide +kernel))), Or.inl rfl, uwX8, tyX8_ok, nmX8, rfl, fun _ => rfl, fun h => by cases h⟩
theorem lmX8_142 : za_okm RX8 142 (1, 3, 0, 0, mX8_in) := ⟨rfl, mkX8_in, (tm_5 (List.mem_of_getElem? (i := 82) (by decide +kernel))), (tm_5 (List.mem_of_getElem? (i := 83) (by decide +kernel)))⟩
theorem lfX8_146 : za_fl RX8 146 9 34 (.int) 0 := ⟨_, _, _, "FeedTowerModel", tyX8, rfl, by decide, (tm_4 (List.mem_of_getElem? (i := 195) (by decide +kernel))), Or.inl rfl, uwX8, tyX8_ok, nmX8, rfl, fun _ => rfl, fun h => by cases h⟩
theorem lfX8_149 : za_fl RX8 149 9 1 (.int) 0 := ⟨_, _, _, "FeedTowerModel", tyX8, rfl, by decide, (tm_4 (List.mem_of_getElem? (i := 162) (by decide +kernel))), Or.inl rfl, uwX8, tyX8_ok, nmX8, rfl, fun _ => rfl, fun h => by cases h⟩
theorem lmX8_152 : za_okm RX8 152 (0, 1, 9, 0, mX8_isFine) := ⟨rfl, ⟨mkX8_isFine, rfl, (tm_5 (List.mem_of_getElem? (i := 85) (by decide +kernel))), (tm_5 (List.mem_of_getElem? (i := 87) (by decide +kernel))), (List.mem_of_getElem? (i := 25) (by decide +kernel))⟩, _, rfl, rfl⟩
theorem lmX8_156 : za_okm RX8 156 (0, 3, 9, 0, mX8_drafts) := ⟨rfl, ⟨mkX8_drafts, rfl, (tm_5 (List.mem_of_getElem? (i := 89) (by decide +kernel))), (tm_5 (List.mem_of_getElem? (i := 91) (by decide +kernel))), (List.mem_of_getElem? (i := 26) (by decide +kernel))⟩, _, rfl, rfl⟩
theorem lmX8_160 : za_okm RX8 160 (0, 1, 9, 0, mX8_isDraftOut) := ⟨rfl, ⟨mkX8_isDraftOut, rfl, (tm_5 (List.mem_of_getElem? (i := 109) (by decide +kernel))), (tm_5 (List.mem_of_getElem? (i := 111) (by decide +kernel))), (List.mem_of_getElem? (i := 28) (by decide +kernel))⟩, _, rfl, rfl⟩
theorem lfX8_163 : za_fl RX8 163 9 16 (.int) 0 := ⟨_, _, _, "FeedTowerModel", tyX8, rfl, by decide, (tm_4 (List.mem_of_getElem? (i := 177) (by decide +kernel))), Or.inl rfl, uwX8, tyX8_ok, nmX8, rfl, fun _ => rfl, fun h => by cases h⟩
theorem lmX8_166 : za_okm RX8 166 (0, 1, 9, 0, mX8_change) := ⟨rfl, ⟨mkX8_change, rfl, (tm_5 (List.mem_of_getElem? (i := 117) (by decide +kernel))), (tm_5 (List.mem_of_getElem? (i := 119) (by decide +kernel))), (List.mem_of_getElem? (i := 30) (by decide +kernel))⟩, _, rfl, rfl⟩
theorem lfX8_170 : za_fl RX8 170 9 0 (.int) 0 := ⟨_, _, _, "FeedTowerModel", tyX8, rfl, by decide, (tm_4 (List.mem_of_getElem? (i := 161) (by decide +kernel))), Or.inl rfl, uwX8, tyX8_ok, nmX8, rfl, fun _ => rfl, fun h => by cases h⟩
theorem lmX8_173 : za_okm RX8 173 (0, 0, 9, 1, mX8_hasDraft) := ⟨rfl, ⟨mkX8_hasDraft, rfl, (tm_5 (List.mem_of_getElem? (i := 105) (by decide +kernel))), (tm_5 (List.mem_of_getElem? (i := 107) (by decide +kernel))), (List.mem_of_getElem? (i := 27) (by decide +kernel))⟩, _, rfl, rfl⟩
theorem lmX8_177 : za_okm RX8 177 (0, 1, 9, 1, mX8_release) := ⟨rfl, ⟨mkX8_release, rfl, (tm_5 (List.mem_of_getElem? (i := 113) (by decide +kernel))), (tm_5 (List.mem_of_getElem? (i := 115) (by decide +kernel))), (List.mem_of_getElem? (i := 29) (by decide +kernel))⟩, _, rfl, rfl⟩
theorem lmX8_180 : za_okm RX8 180 (0, 1, 9, 1, mX8_isItem) := ⟨rfl, ⟨mkX8_isItem, rfl, (tm_5 (List.mem_of_getElem? (i := 125) (by decide +kernel))), (tm_5 (List.mem_of_getElem? (i := 127) (by decide +kernel))), (List.mem_of_getElem? (i := 31) (by decide +kernel))⟩, _, rfl, rfl⟩
theorem lmX8_183 : za_okm RX8 183 (0, 1, 9, 0, mX8_living) := ⟨rfl, ⟨mkX8_living, rfl, (tm_5 (List.mem_of_getElem? (i := 129) (by decide +kernel))), (tm_5 (List.mem_of_getElem? (i := 131) (by decide +kernel))), (List.mem_of_getElem? (i := 32) (by decide +kernel))⟩, _, rfl, rfl⟩
theorem lfX8_187 : za_fl RX8 187 9 18 (.int) 0 := ⟨_, _, _, "FeedTowerModel", tyX8, rfl, by decide, (tm_4 (List.mem_of_getElem? (i := 179) (by decide +kernel))), Or.inl rfl, uwX8, tyX8_ok, nmX8, rfl, fun _ => rfl, fun h => by cases h⟩
theorem lmX8_190 : za_okm RX8 190 (0, 2, 9, 0, mX8_wasTold) := ⟨rfl, ⟨mkX8_wasTold, rfl, (tm_5 (List.mem_of_getElem? (i := 153) (by decide +kernel))), (tm_5 (List.mem_of_getElem? (i := 155) (by decide +kernel))), (List.mem_of_getElem? (i := 33) (by decide +kernel))⟩, _, rfl, rfl⟩
theorem lmX8_194 : za_okm RX8 194 (1, 7, 0, 1, mX8_areRight) := ⟨rfl, mkX8_areRight, (tm_5 (List.mem_of_getElem? (i := 161) (by decide +kernel))), (tm_5 (List.mem_of_getElem? (i := 162) (by decide +kernel)))⟩
theorem lfX8_198 : za_fl RX8 198 9 23 (.int) 0 := ⟨_, _, _, "FeedTowerModel", tyX8, rfl, by decide, (tm_4 (List.mem_of_getElem? (i := 184) (by decide +kernel))), Or.inl rfl, uwX8, tyX8_ok, nmX8, rfl, fun _ => rfl, fun h => by cases h⟩
theorem lmX8_201 : za_okm RX8 201 (0, 2, 9, 0, mX8_hasGroup) := ⟨rfl, ⟨mkX8_hasGroup, rfl, (tm_5 (List.mem_of_getElem? (i := 172) (by decide +kernel))), (tm_5 (List.mem_of_getElem? (i := 174) (by decide +kernel))), (List.mem_of_getElem? (i := 35) (by decide +kernel))⟩, _, rfl, rfl⟩
theorem lmX8_204 : za_okm RX8 204 (0, 1, 9, 1, mX8_due) := ⟨rfl, ⟨mkX8_due, rfl, (tm_5 (List.mem_of_getElem? (i := 176) (by decide +kernel))), (tm_5 (List.mem_of_getElem? (i := 178) (by decide +kernel))), (List.mem_of_getElem? (i := 36) (by decide +kernel))⟩, _, rfl, rfl⟩
theorem lmX8_207 : za_okm RX8 207 (0, 2, 9, 0, mX8_gotToday) := ⟨rfl, ⟨mkX8_gotToday, rfl, (tm_5 (List.mem_of_getElem? (i := 180) (by decide +kernel))), (tm_5 (List.mem_of_getElem? (i := 182) (by decide +kernel))), (List.mem_of_getElem? (i := 37) (by decide +kernel))⟩, _, rfl, rfl⟩
theorem lmX8_211 : za_okm RX8 211 (0, 1, 9, 2, mX8_adFor) := ⟨rfl, ⟨mkX8_adFor, rfl, (tm_5 (List.mem_of_getElem? (i := 168) (by decide +kernel))), (tm_5 (List.mem_of_getElem? (i := 170) (by decide +kernel))), (List.mem_of_getElem? (i := 34) (by decide +kernel))⟩, _, rfl, rfl⟩
theorem lmX8_214 : za_okm RX8 214 (0, 1, 9, 1, mX8_isDownload) := ⟨rfl, ⟨mkX8_isDownload, rfl, (tm_5 (List.mem_of_getElem? (i := 188) (by decide +kernel))), (tm_5 (List.mem_of_getElem? (i := 190) (by decide +kernel))), (List.mem_of_getElem? (i := 38) (by decide +kernel))⟩, _, rfl, rfl⟩
theorem lfX8_217 : za_fl RX8 217 9 45 (.int) 0 := ⟨_, _, _, "FeedTowerModel", tyX8, rfl, by decide, (tm_4 (List.mem_of_getElem? (i := 206) (by decide +kernel))), Or.inl rfl, uwX8, tyX8_ok, nmX8, rfl, fun _ => rfl, fun h => by cases h⟩
theorem lmX8_220 : za_okm RX8 220 (0, 2, 9, 0, mX8_pieceSeconds) := ⟨rfl, ⟨mkX8_pieceSeconds, rfl, (tm_5 (List.mem_of_getElem? (i := 220) (by decide +kernel))), (tm_5 (List.mem_of_getElem? (i := 222) (by decide +kernel))), (List.mem_of_getElem? (i := 44) (by decide +kernel))⟩, _, rfl, rfl⟩
theorem lmX8_223 : za_okm RX8 223 (0, 2, 9, 1, mX8_startOf) := ⟨rfl, ⟨mkX8_startOf, rfl, (tm_5 (List.mem_of_getElem? (i := 216) (by decide +kernel))), (tm_5 (List.mem_of_getElem? (i := 218) (by decide +kernel))), (List.mem_of_getElem? (i := 43) (by decide +kernel))⟩, _, rfl, rfl⟩
theorem lmX8_226 : za_okm RX8 226 (0, 3, 9, 0, mX8_isOf) := ⟨rfl, ⟨mkX8_isOf, rfl, (tm_5 (List.mem_of_getElem? (i := 204) (by decide +kernel))), (tm_5 (List.mem_of_getElem? (i := 206) (by decide +kernel))), (List.mem_of_getElem? (i := 40) (by decide +kernel))⟩, _, rfl, rfl⟩
theorem lmX8_229 : za_okm RX8 229 (0, 2, 9, 0, mX8_isSound) := ⟨rfl, ⟨mkX8_isSound, rfl, (tm_5 (List.mem_of_getElem? (i := 208) (by decide +kernel))), (tm_5 (List.mem_of_getElem? (i := 210) (by decide +kernel))), (List.mem_of_getElem? (i := 41) (by decide +kernel))⟩, _, rfl, rfl⟩
theorem lmX8_232 : za_okm RX8 232 (0, 2, 9, 2, mX8_lastLoaded) := ⟨rfl, ⟨mkX8_lastLoaded, rfl, (tm_5 (List.mem_of_getElem? (i := 212) (by decide +kernel))), (tm_5 (List.mem_of_getElem? (i := 214) (by decide +kernel))), (List.mem_of_getElem? (i := 42) (by decide +kernel))⟩, _, rfl, rfl⟩
theorem lmX8_235 : za_okm RX8 235 (0, 2, 9, 3, mX8_reach) := ⟨rfl, ⟨mkX8_reach, rfl, (tm_6 (List.mem_of_getElem? (i := 28) (by decide +kernel))), (tm_6 (List.mem_of_getElem? (i := 30) (by decide +kernel))), (List.mem_of_getElem? (i := 50) (by decide +kernel))⟩, _, rfl, rfl⟩
theorem lmX8_238 : za_okm RX8 238 (0, 2, 9, 3, mX8_owes) := ⟨rfl, ⟨mkX8_owes, rfl, (tm_5 (List.mem_of_getElem? (i := 200) (by decide +kernel))), (tm_5 (List.mem_of_getElem? (i := 202) (by decide +kernel))), (List.mem_of_getElem? (i := 39) (by decide +kernel))⟩, _, rfl, rfl⟩
theorem lmX8_241 : za_okm RX8 241 (0, 1, 9, 0, mX8_soundSeconds) := ⟨rfl, ⟨mkX8_soundSeconds, rfl, (tm_5 (List.mem_of_getElem? (i := 232) (by decide +kernel))), (tm_5 (List.mem_of_getElem? (i := 234) (by decide +kernel))), (List.mem_of_getElem? (i := 45) (by decide +kernel))⟩, _, rfl, rfl⟩
theorem lmX8_244 : za_okm RX8 244 (0, 1, 9, 0, mX8_askedFor) := ⟨rfl, ⟨mkX8_askedFor, rfl, (tm_5 (List.mem_of_getElem? (i := 236) (by decide +kernel))), (tm_5 (List.mem_of_getElem? (i := 238) (by decide +kernel))), (List.mem_of_getElem? (i := 46) (by decide +kernel))⟩, _, rfl, rfl⟩
theorem lmX8_247 : za_okm RX8 247 (0, 2, 9, 2, mX8_isHeard) := ⟨rfl, ⟨mkX8_isHeard, rfl, (tm_6 (List.mem_of_getElem? (i := 16) (by decide +kernel))), (tm_6 (List.mem_of_getElem? (i := 18) (by decide +kernel))), (List.mem_of_getElem? (i := 48) (by decide +kernel))⟩, _, rfl, rfl⟩
theorem lmX8_250 : za_okm RX8 250 (0, 1, 9, 3, mX8_heardOf) := ⟨rfl, ⟨mkX8_heardOf, rfl, (tm_6 (List.mem_of_getElem? (i := 12) (by decide +kernel))), (tm_6 (List.mem_of_getElem? (i := 14) (by decide +kernel))), (List.mem_of_getElem? (i := 47) (by decide +kernel))⟩, _, rfl, rfl⟩
theorem lmX8_253 : za_okm RX8 253 (0, 1, 9, 4, mX8_goesOn) := ⟨rfl, ⟨mkX8_goesOn, rfl, (tm_6 (List.mem_of_getElem? (i := 24) (by decide +kernel))), (tm_6 (List.mem_of_getElem? (i := 26) (by decide +kernel))), (List.mem_of_getElem? (i := 49) (by decide +kernel))⟩, _, rfl, rfl⟩
theorem lmX8_256 : za_okm RX8 256 (0, 0, 9, 1, mX8_judge) := ⟨rfl, ⟨mkX8_judge, rfl, (tm_6 (List.mem_of_getElem? (i := 44) (by decide +kernel))), (tm_6 (List.mem_of_getElem? (i := 46) (by decide +kernel))), (List.mem_of_getElem? (i := 51) (by decide +kernel))⟩, _, rfl, rfl⟩
def flX8 : List (Nat × (Nat × Nat × FieldType × Nat)) := [(7, (9, 2, .array .int, 1)), (13, (9, 3, .array .int, 1)), (16, (9, 4, .array .int, 1)), (19, (9, 5, .array .boolean, 1)), (23, (9, 7, .array .int, 1)), (26, (9, 8, .array .int, 1)), (29, (9, 9, .array .boolean, 1)), (32, (9, 10, .array .boolean, 1)), (35, (9, 11, .array .int, 1)), (38, (9, 12, .array .int, 1)), (41, (9, 13, .array .int, 1)), (44, (9, 14, .array .int, 1)), (47, (9, 15, .array .boolean, 1)), (50, (9, 17, .array .int, 1)), (53, (9, 19, .array .int, 1)), (56, (9, 20, .array .int, 1)), (59, (9, 21, .array .int, 1)), (62, (9, 22, .array .int, 1)), (65, (9, 24, .array .int, 1)), (68, (9, 25, .array .int, 1)), (71, (9, 26, .array .int, 1)), (74, (9, 27, .array .int, 1)), (77, (9, 28, .array .int, 1)), (80, (9, 29, .array .int, 1)), (83, (9, 30, .array .int, 1)), (86, (9, 31, .array .int, 1)), (89, (9, 32, .array .boolean, 1)), (92, (9, 33, .array .boolean, 1)), (95, (9, 35, .array .int, 1)), (98, (9, 36, .array .int, 1)), (101, (9, 37, .array .int, 1)), (104, (9, 38, .array .int, 1)), (107, (9, 39, .array .int, 1)), (110, (9, 40, .array .int, 1)), (113, (9, 41, .array .int, 1)), (116, (9, 42, .array .int, 1)), (120, (9, 43, .array .boolean, 1)), (123, (9, 44, .array .boolean, 1)), (126, (9, 46, .array .int, 1)), (129, (9, 47, .array .int, 1)), (132, (9, 48, .array .int, 1)), (135, (9, 49, .int, 0)), (139, (9, 6, .int, 0)), (146, (9, 34, .int, 0)), (149, (9, 1, .int, 0)), (163, (9, 16, .int, 0)), (170, (9, 0, .int, 0)), (187, (9, 18, .int, 0)), (198, (9, 23, .int, 0)), (217, (9, 45, .int, 0))]
def mtX8 : List (Nat × (Nat × Nat × Nat × Nat × za_M)) := [(1, (4, 0, 0, 0, mX7_isIn)), (142, (1, 3, 0, 0, mX8_in)), (152, (0, 1, 9, 0, mX8_isFine)), (156, (0, 3, 9, 0, mX8_drafts)), (160, (0, 1, 9, 0, mX8_isDraftOut)), (166, (0, 1, 9, 0, mX8_change)), (173, (0, 0, 9, 1, mX8_hasDraft)), (177, (0, 1, 9, 1, mX8_release)), (180, (0, 1, 9, 1, mX8_isItem)), (183, (0, 1, 9, 0, mX8_living)), (190, (0, 2, 9, 0, mX8_wasTold)), (194, (1, 7, 0, 1, mX8_areRight)), (201, (0, 2, 9, 0, mX8_hasGroup)), (204, (0, 1, 9, 1, mX8_due)), (207, (0, 2, 9, 0, mX8_gotToday)), (211, (0, 1, 9, 2, mX8_adFor)), (214, (0, 1, 9, 1, mX8_isDownload)), (220, (0, 2, 9, 0, mX8_pieceSeconds)), (223, (0, 2, 9, 1, mX8_startOf)), (226, (0, 3, 9, 0, mX8_isOf)), (229, (0, 2, 9, 0, mX8_isSound)), (232, (0, 2, 9, 2, mX8_lastLoaded)), (235, (0, 2, 9, 3, mX8_reach)), (238, (0, 2, 9, 3, mX8_owes)), (241, (0, 1, 9, 0, mX8_soundSeconds)), (244, (0, 1, 9, 0, mX8_askedFor)), (247, (0, 2, 9, 2, mX8_isHeard)), (250, (0, 1, 9, 3, mX8_heardOf)), (253, (0, 1, 9, 4, mX8_goesOn)), (256, (0, 0, 9, 1, mX8_judge))]
def nwX8 : List (Nat × (Nat × List Value)) := []
def thX8 : List (Nat × (Nat × Nat)) := []
def ckX8 : List (Nat × Nat) := []
def lkX8 : za_LK := (za_lu flX8, za_lu mtX8, za_lu nwX8, za_lu thX8, (fun i => ([] : List Nat).elem i), za_lu ckX8)
theorem okX8 : za_lk RX8 lkX8 := ⟨za_lu_ok (l := flX8) (Q := fun i q => za_fl RX8 i q.1 q.2.1 q.2.2.1 q.2.2.2) (za_cons lfX8_7 (za_cons lfX8_13 (za_cons lfX8_16 (za_cons lfX8_19 (za_cons lfX8_23 (za_cons lfX8_26 (za_cons lfX8_29 (za_cons lfX8_32 (za_cons lfX8_35 (za_cons lfX8_38 (za_cons lfX8_41 (za_cons lfX8_44 (za_cons lfX8_47 (za_cons lfX8_50 (za_cons lfX8_53 (za_cons lfX8_56 (za_cons lfX8_59 (za_cons lfX8_62 (za_cons lfX8_65 (za_cons lfX8_68 (za_cons lfX8_71 (za_cons lfX8_74 (za_cons lfX8_77 (za_cons lfX8_80 (za_cons lfX8_83 (za_cons lfX8_86 (za_cons lfX8_89 (za_cons lfX8_92 (za_cons lfX8_95 (za_cons lfX8_98 (za_cons lfX8_101 (za_cons lfX8_104 (za_cons lfX8_107 (za_cons lfX8_110 (za_cons lfX8_113 (za_cons lfX8_116 (za_cons lfX8_120 (za_cons lfX8_123 (za_cons lfX8_126 (za_cons lfX8_129 (za_cons lfX8_132 (za_cons lfX8_135 (za_cons lfX8_139 (za_cons lfX8_146 (za_cons lfX8_149 (za_cons lfX8_163 (za_cons lfX8_170 (za_cons lfX8_187 (za_cons lfX8_198 (za_cons lfX8_217 za_nil)))))))))))))))))))))))))))))))))))))))))))))))))), za_lu_ok (l := mtX8) (Q := za_okm RX8) (za_cons lmX8_1 (za_cons lmX8_142 (za_cons lmX8_152 (za_cons lmX8_156 (za_cons lmX8_160 (za_cons lmX8_166 (za_cons lmX8_173 (za_cons lmX8_177 (za_cons lmX8_180 (za_cons lmX8_183 (za_cons lmX8_190 (za_cons lmX8_194 (za_cons lmX8_201 (za_cons lmX8_204 (za_cons lmX8_207 (za_cons lmX8_211 (za_cons lmX8_214 (za_cons lmX8_220 (za_cons lmX8_223 (za_cons lmX8_226 (za_cons lmX8_229 (za_cons lmX8_232 (za_cons lmX8_235 (za_cons lmX8_238 (za_cons lmX8_241 (za_cons lmX8_244 (za_cons lmX8_247 (za_cons lmX8_250 (za_cons lmX8_253 (za_cons lmX8_256 za_nil)))))))))))))))))))))))))))))), za_lu_ok (l := nwX8) (Q := fun i q => za_nl RX8 i q.1 q.2) za_nil, fun i q j h hj => za_lu_ok (l := thX8) (Q := fun i q => ∀ j, ([] : List Nat).elem j = true → za_tl RX8 i j q.2 q.1) za_nil i q h j hj, za_lu_ok (l := ckX8) (Q := fun i ci => ∃ r, vwCl[ci]? = some r ∧ Jvm.Cond.classLink RX8 i r.1 ∈ lw_tbl) za_nil⟩
theorem uX8_f7 : za_LK.fl lkX8 7 = some (9, 2, .array .int, 1) := rfl
theorem uX8_f13 : za_LK.fl lkX8 13 = some (9, 3, .array .int, 1) := rfl
theorem uX8_f16 : za_LK.fl lkX8 16 = some (9, 4, .array .int, 1) := rfl
theorem uX8_f19 : za_LK.fl lkX8 19 = some (9, 5, .array .boolean, 1) := rfl
theorem uX8_f23 : za_LK.fl lkX8 23 = some (9, 7, .array .int, 1) := rfl
theorem uX8_f26 : za_LK.fl lkX8 26 = some (9, 8, .array .int, 1) := rfl
theorem uX8_f29 : za_LK.fl lkX8 29 = some (9, 9, .array .boolean, 1) := rfl
theorem uX8_f32 : za_LK.fl lkX8 32 = some (9, 10, .array .boolean, 1) := rfl
theorem uX8_f35 : za_LK.fl lkX8 35 = some (9, 11, .array .int, 1) := rfl
theorem uX8_f38 : za_LK.fl lkX8 38 = some (9, 12, .array .int, 1) := rfl
theorem uX8_f41 : za_LK.fl lkX8 41 = some (9, 13, .array .int, 1) := rfl
theorem uX8_f44 : za_LK.fl lkX8 44 = some (9, 14, .array .int, 1) := rfl
theorem uX8_f47 : za_LK.fl lkX8 47 = some (9, 15, .array .boolean, 1) := rfl
theorem uX8_f50 : za_LK.fl lkX8 50 = some (9, 17, .array .int, 1) := rfl
theorem uX8_f53 : za_LK.fl lkX8 53 = some (9, 19, .array .int, 1) := rfl
theorem uX8_f56 : za_LK.fl lkX8 56 = some (9, 20, .array .int, 1) := rfl
theorem uX8_f59 : za_LK.fl lkX8 59 = some (9, 21, .array .int, 1) := rfl
theorem uX8_f62 : za_LK.fl lkX8 62 = some (9, 22, .array .int, 1) := rfl
theorem uX8_f65 : za_LK.fl lkX8 65 = some (9, 24, .array .int, 1) := rfl
theorem uX8_f68 : za_LK.fl lkX8 68 = some (9, 25, .array .int, 1) := rfl
theorem uX8_f71 : za_LK.fl lkX8 71 = some (9, 26, .array .int, 1) := rfl
theorem uX8_f74 : za_LK.fl lkX8 74 = some (9, 27, .array .int, 1) := rfl
theorem uX8_f77 : za_LK.fl lkX8 77 = some (9, 28, .array .int, 1) := rfl
theorem uX8_f80 : za_LK.fl lkX8 80 = some (9, 29, .array .int, 1) := rfl
theorem uX8_f83 : za_LK.fl lkX8 83 = some (9, 30, .array .int, 1) := rfl
theorem uX8_f86 : za_LK.fl lkX8 86 = some (9, 31, .array .int, 1) := rfl
theorem uX8_f89 : za_LK.fl lkX8 89 = some (9, 32, .array .boolean, 1) := rfl
theorem uX8_f92 : za_LK.fl lkX8 92 = some (9, 33, .array .boolean, 1) := rfl
theorem uX8_f95 : za_LK.fl lkX8 95 = some (9, 35, .array .int, 1) := rfl
theorem uX8_f98 : za_LK.fl lkX8 98 = some (9, 36, .array .int, 1) := rfl
theorem uX8_f101 : za_LK.fl lkX8 101 = some (9, 37, .array .int, 1) := rfl
theorem uX8_f104 : za_LK.fl lkX8 104 = some (9, 38, .array .int, 1) := rfl
theorem uX8_f107 : za_LK.fl lkX8 107 = some (9, 39, .array .int, 1) := rfl
theorem uX8_f110 : za_LK.fl lkX8 110 = some (9, 40, .array .int, 1) := rfl
theorem uX8_f113 : za_LK.fl lkX8 113 = some (9, 41, .array .int, 1) := rfl
theorem uX8_f116 : za_LK.fl lkX8 116 = some (9, 42, .array .int, 1) := rfl
theorem uX8_f120 : za_LK.fl lkX8 120 = some (9, 43, .array .boolean, 1) := rfl
theorem uX8_f123 : za_LK.fl lkX8 123 = some (9, 44, .array .boolean, 1) := rfl
theorem uX8_f126 : za_LK.fl lkX8 126 = some (9, 46, .array .int, 1) := rfl
theorem uX8_f129 : za_LK.fl lkX8 129 = some (9, 47, .array .int, 1) := rfl
theorem uX8_f132 : za_LK.fl lkX8 132 = some (9, 48, .array .int, 1) := rfl
theorem uX8_f135 : za_LK.fl lkX8 135 = some (9, 49, .int, 0) := rfl
theorem uX8_f139 : za_LK.fl lkX8 139 = some (9, 6, .int, 0) := rfl
theorem uX8_f146 : za_LK.fl lkX8 146 = some (9, 34, .int, 0) := rfl
theorem uX8_f149 : za_LK.fl lkX8 149 = some (9, 1, .int, 0) := rfl
theorem uX8_f163 : za_LK.fl lkX8 163 = some (9, 16, .int, 0) := rfl
theorem uX8_f170 : za_LK.fl lkX8 170 = some (9, 0, .int, 0) := rfl
theorem uX8_f187 : za_LK.fl lkX8 187 = some (9, 18, .int, 0) := rfl
theorem uX8_f198 : za_LK.fl lkX8 198 = some (9, 23, .int, 0) := rfl
theorem uX8_f217 : za_LK.fl lkX8 217 = some (9, 45, .int, 0) := rfl
theorem uX8_m1 : za_LK.mt lkX8 1 = some (4, 0, 0, 0, mX7_isIn) := rfl
theorem uX8_m142 : za_LK.mt lkX8 142 = some (1, 3, 0, 0, mX8_in) := rfl
theorem uX8_m152 : za_LK.mt lkX8 152 = some (0, 1, 9, 0, mX8_isFine) := rfl
theorem uX8_m156 : za_LK.mt lkX8 156 = some (0, 3, 9, 0, mX8_drafts) := rfl
theorem uX8_m160 : za_LK.mt lkX8 160 = some (0, 1, 9, 0, mX8_isDraftOut) := rfl
theorem uX8_m166 : za_LK.mt lkX8 166 = some (0, 1, 9, 0, mX8_change) := rfl
theorem uX8_m173 : za_LK.mt lkX8 173 = some (0, 0, 9, 1, mX8_hasDraft) := rfl
theorem uX8_m177 : za_LK.mt lkX8 177 = some (0, 1, 9, 1, mX8_release) := rfl
theorem uX8_m180 : za_LK.mt lkX8 180 = some (0, 1, 9, 1, mX8_isItem) := rfl
theorem uX8_m183 : za_LK.mt lkX8 183 = some (0, 1, 9, 0, mX8_living) := rfl
theorem uX8_m190 : za_LK.mt lkX8 190 = some (0, 2, 9, 0, mX8_wasTold) := rfl
theorem uX8_m194 : za_LK.mt lkX8 194 = some (1, 7, 0, 1, mX8_areRight) := rfl
theorem uX8_m201 : za_LK.mt lkX8 201 = some (0, 2, 9, 0, mX8_hasGroup) := rfl
theorem uX8_m204 : za_LK.mt lkX8 204 = some (0, 1, 9, 1, mX8_due) := rfl
theorem uX8_m207 : za_LK.mt lkX8 207 = some (0, 2, 9, 0, mX8_gotToday) := rfl
theorem uX8_m211 : za_LK.mt lkX8 211 = some (0, 1, 9, 2, mX8_adFor) := rfl
theorem uX8_m214 : za_LK.mt lkX8 214 = some (0, 1, 9, 1, mX8_isDownload) := rfl
theorem uX8_m220 : za_LK.mt lkX8 220 = some (0, 2, 9, 0, mX8_pieceSeconds) := rfl
theorem uX8_m223 : za_LK.mt lkX8 223 = some (0, 2, 9, 1, mX8_startOf) := rfl
theorem uX8_m226 : za_LK.mt lkX8 226 = some (0, 3, 9, 0, mX8_isOf) := rfl
theorem uX8_m229 : za_LK.mt lkX8 229 = some (0, 2, 9, 0, mX8_isSound) := rfl
theorem uX8_m232 : za_LK.mt lkX8 232 = some (0, 2, 9, 2, mX8_lastLoaded) := rfl
theorem uX8_m235 : za_LK.mt lkX8 235 = some (0, 2, 9, 3, mX8_reach) := rfl
theorem uX8_m238 : za_LK.mt lkX8 238 = some (0, 2, 9, 3, mX8_owes) := rfl
theorem uX8_m241 : za_LK.mt lkX8 241 = some (0, 1, 9, 0, mX8_soundSeconds) := rfl
theorem uX8_m244 : za_LK.mt lkX8 244 = some (0, 1, 9, 0, mX8_askedFor) := rfl
theorem uX8_m247 : za_LK.mt lkX8 247 = some (0, 2, 9, 2, mX8_isHeard) := rfl
theorem uX8_m250 : za_LK.mt lkX8 250 = some (0, 1, 9, 3, mX8_heardOf) := rfl
theorem uX8_m253 : za_LK.mt lkX8 253 = some (0, 1, 9, 4, mX8_goesOn) := rfl
theorem uX8_m256 : za_LK.mt lkX8 256 = some (0, 0, 9, 1, mX8_judge) := rfl
