theorem lmL_7 : za_okm RL 7 (0, 1, 8, 8, mX7_talk) := ⟨rfl, ⟨mkX7_talk, rfl, (tm_1 (List.mem_of_getElem? (i := 99) (by decide +kernel))), (tm_1 (List.mem_of_getElem? (i := 100) (by decide +kernel))), (tm_1 (List.mem_of_getElem? (i := 101) (by decide +kernel)))⟩, _, rfl, rfl⟩
theorem lnL_8 : za_nl RL 8 8 [.null, .null, .null, .null, .null, .null, .int (nI 0), .int (nI 0), .int (nI 0), .int (nI 0)] := ⟨_, _, _, tyX7, rfl, (tm_1 (List.mem_of_getElem? (i := 25) (by decide +kernel))), (tm_1 (List.mem_of_getElem? (i := 26) (by decide +kernel))), (tm_1 (List.mem_of_getElem? (i := 1) (by decide +kernel))), uwX7, tyX7_ok, rfl, by decide +kernel⟩
theorem lmL_17 : za_okm RL 17 (0, 2, 8, 8, mX7_music) := ⟨rfl, ⟨mkX7_music, rfl, (tm_2 (List.mem_of_getElem? (i := 54) (by decide +kernel))), (tm_2 (List.mem_of_getElem? (i := 55) (by decide +kernel))), (tm_2 (List.mem_of_getElem? (i := 56) (by decide +kernel)))⟩, _, rfl, rfl⟩
theorem lmL_23 : za_okm RL 23 (0, 1, 8, 8, mX7_slot) := ⟨rfl, ⟨mkX7_slot, rfl, (tm_2 (List.mem_of_getElem? (i := 84) (by decide +kernel))), (tm_2 (List.mem_of_getElem? (i := 85) (by decide +kernel))), (tm_2 (List.mem_of_getElem? (i := 86) (by decide +kernel)))⟩, _, rfl, rfl⟩
theorem lmL_26 : za_okm RL 26 (0, 2, 8, 8, mX7_item) := ⟨rfl, ⟨mkX7_item, rfl, (tm_2 (List.mem_of_getElem? (i := 92) (by decide +kernel))), (tm_2 (List.mem_of_getElem? (i := 93) (by decide +kernel))), (tm_2 (List.mem_of_getElem? (i := 94) (by decide +kernel)))⟩, _, rfl, rfl⟩
theorem lmL_29 : za_okm RL 29 (0, 2, 8, 8, mX7_cut) := ⟨rfl, ⟨mkX7_cut, rfl, (tm_2 (List.mem_of_getElem? (i := 173) (by decide +kernel))), (tm_2 (List.mem_of_getElem? (i := 174) (by decide +kernel))), (tm_2 (List.mem_of_getElem? (i := 175) (by decide +kernel)))⟩, _, rfl, rfl⟩
theorem lmL_32 : za_okm RL 32 (0, 1, 8, 8, mX7_withdraw) := ⟨rfl, ⟨mkX7_withdraw, rfl, (tm_2 (List.mem_of_getElem? (i := 193) (by decide +kernel))), (tm_2 (List.mem_of_getElem? (i := 194) (by decide +kernel))), (tm_2 (List.mem_of_getElem? (i := 195) (by decide +kernel)))⟩, _, rfl, rfl⟩
theorem lmL_36 : za_okm RL 36 (0, 1, 8, 8, mX7_songOut) := ⟨rfl, ⟨mkX7_songOut, rfl, (tm_2 (List.mem_of_getElem? (i := 201) (by decide +kernel))), (tm_2 (List.mem_of_getElem? (i := 202) (by decide +kernel))), (tm_2 (List.mem_of_getElem? (i := 203) (by decide +kernel)))⟩, _, rfl, rfl⟩
theorem lmL_39 : za_okm RL 39 (0, 1, 8, 8, mX7_pass) := ⟨rfl, ⟨mkX7_pass, rfl, (tm_2 (List.mem_of_getElem? (i := 211) (by decide +kernel))), (tm_2 (List.mem_of_getElem? (i := 212) (by decide +kernel))), (tm_2 (List.mem_of_getElem? (i := 213) (by decide +kernel)))⟩, _, rfl, rfl⟩
theorem lmL_42 : za_okm RL 42 (0, 1, 8, 7, mX7_app) := ⟨rfl, ⟨mkX7_app, rfl, (tm_2 (List.mem_of_getElem? (i := 224) (by decide +kernel))), (tm_2 (List.mem_of_getElem? (i := 225) (by decide +kernel))), (tm_2 (List.mem_of_getElem? (i := 226) (by decide +kernel)))⟩, _, rfl, rfl⟩
theorem lmL_45 : za_okm RL 45 (0, 1, 8, 7, mX7_poll) := ⟨rfl, ⟨mkX7_poll, rfl, (tm_3 (List.mem_of_getElem? (i := 13) (by decide +kernel))), (tm_3 (List.mem_of_getElem? (i := 14) (by decide +kernel))), (tm_3 (List.mem_of_getElem? (i := 15) (by decide +kernel)))⟩, _, rfl, rfl⟩
theorem lmL_48 : za_okm RL 48 (0, 7, 8, 7, mX7_campaign) := ⟨rfl, ⟨mkX7_campaign, rfl, (tm_3 (List.mem_of_getElem? (i := 30) (by decide +kernel))), (tm_3 (List.mem_of_getElem? (i := 31) (by decide +kernel))), (tm_3 (List.mem_of_getElem? (i := 32) (by decide +kernel)))⟩, _, rfl, rfl⟩
theorem lmL_52 : za_okm RL 52 (0, 2, 8, 9, mX7_ask) := ⟨rfl, ⟨mkX7_ask, rfl, (tm_3 (List.mem_of_getElem? (i := 81) (by decide +kernel))), (tm_3 (List.mem_of_getElem? (i := 82) (by decide +kernel))), (tm_3 (List.mem_of_getElem? (i := 83) (by decide +kernel)))⟩, _, rfl, rfl⟩
theorem lmL_55 : za_okm RL 55 (0, 3, 8, 8, mX7_load) := ⟨rfl, ⟨mkX7_load, rfl, (tm_3 (List.mem_of_getElem? (i := 194) (by decide +kernel))), (tm_3 (List.mem_of_getElem? (i := 195) (by decide +kernel))), (tm_3 (List.mem_of_getElem? (i := 196) (by decide +kernel)))⟩, _, rfl, rfl⟩
theorem lmL_59 : za_okm RL 59 (0, 2, 8, 7, mX7_bot) := ⟨rfl, ⟨mkX7_bot, rfl, (tm_4 (List.mem_of_getElem? (i := 2) (by decide +kernel))), (tm_4 (List.mem_of_getElem? (i := 3) (by decide +kernel))), (tm_4 (List.mem_of_getElem? (i := 4) (by decide +kernel)))⟩, _, rfl, rfl⟩
theorem lmL_63 : za_okm RL 63 (0, 2, 8, 7, mX7_tell) := ⟨rfl, ⟨mkX7_tell, rfl, (tm_4 (List.mem_of_getElem? (i := 9) (by decide +kernel))), (tm_4 (List.mem_of_getElem? (i := 10) (by decide +kernel))), (tm_4 (List.mem_of_getElem? (i := 11) (by decide +kernel)))⟩, _, rfl, rfl⟩
theorem lmL_67 : za_okm RL 67 (0, 2, 8, 7, mX7_ofItem) := ⟨rfl, ⟨mkX7_ofItem, rfl, (tm_4 (List.mem_of_getElem? (i := 33) (by decide +kernel))), (tm_4 (List.mem_of_getElem? (i := 34) (by decide +kernel))), (tm_4 (List.mem_of_getElem? (i := 35) (by decide +kernel)))⟩, _, rfl, rfl⟩
theorem lmL_70 : za_okm RL 70 (0, 3, 8, 7, mX7_ofPart) := ⟨rfl, ⟨mkX7_ofPart, rfl, (tm_4 (List.mem_of_getElem? (i := 49) (by decide +kernel))), (tm_4 (List.mem_of_getElem? (i := 50) (by decide +kernel))), (tm_4 (List.mem_of_getElem? (i := 51) (by decide +kernel)))⟩, _, rfl, rfl⟩
theorem lmL_73 : za_okm RL 73 (0, 2, 8, 7, mX7_told) := ⟨rfl, ⟨mkX7_told, rfl, (tm_4 (List.mem_of_getElem? (i := 56) (by decide +kernel))), (tm_4 (List.mem_of_getElem? (i := 57) (by decide +kernel))), (tm_4 (List.mem_of_getElem? (i := 58) (by decide +kernel)))⟩, _, rfl, rfl⟩
theorem lmL_76 : za_okm RL 76 (0, 2, 8, 7, mX7_ofCampaign) := ⟨rfl, ⟨mkX7_ofCampaign, rfl, (tm_4 (List.mem_of_getElem? (i := 64) (by decide +kernel))), (tm_4 (List.mem_of_getElem? (i := 65) (by decide +kernel))), (tm_4 (List.mem_of_getElem? (i := 66) (by decide +kernel)))⟩, _, rfl, rfl⟩
theorem lmL_79 : za_okm RL 79 (0, 2, 8, 7, mX7_ofDownload) := ⟨rfl, ⟨mkX7_ofDownload, rfl, (tm_4 (List.mem_of_getElem? (i := 84) (by decide +kernel))), (tm_4 (List.mem_of_getElem? (i := 85) (by decide +kernel))), (tm_4 (List.mem_of_getElem? (i := 86) (by decide +kernel)))⟩, _, rfl, rfl⟩
theorem lmL_82 : za_okm RL 82 (0, 2, 8, 7, mX7_ad) := ⟨rfl, ⟨mkX7_ad, rfl, (tm_4 (List.mem_of_getElem? (i := 103) (by decide +kernel))), (tm_4 (List.mem_of_getElem? (i := 104) (by decide +kernel))), (tm_4 (List.mem_of_getElem? (i := 105) (by decide +kernel)))⟩, _, rfl, rfl⟩
theorem lmL_85 : za_okm RL 85 (0, 1, 8, 7, mX7_loadedAnew) := ⟨rfl, ⟨mkX7_loadedAnew, rfl, (tm_4 (List.mem_of_getElem? (i := 112) (by decide +kernel))), (tm_4 (List.mem_of_getElem? (i := 113) (by decide +kernel))), (tm_4 (List.mem_of_getElem? (i := 114) (by decide +kernel)))⟩, _, rfl, rfl⟩
theorem lmL_88 : za_okm RL 88 (0, 2, 8, 7, mX7_counts) := ⟨rfl, ⟨mkX7_counts, rfl, (tm_4 (List.mem_of_getElem? (i := 120) (by decide +kernel))), (tm_4 (List.mem_of_getElem? (i := 121) (by decide +kernel))), (tm_4 (List.mem_of_getElem? (i := 122) (by decide +kernel)))⟩, _, rfl, rfl⟩
theorem lmL_91 : za_okm RL 91 (0, 2, 8, 7, mX7_count) := ⟨rfl, ⟨mkX7_count, rfl, (tm_4 (List.mem_of_getElem? (i := 143) (by decide +kernel))), (tm_4 (List.mem_of_getElem? (i := 144) (by decide +kernel))), (tm_4 (List.mem_of_getElem? (i := 145) (by decide +kernel)))⟩, _, rfl, rfl⟩
theorem lmL_94 : za_okm RL 94 (0, 2, 8, 7, mX7_isOwed) := ⟨rfl, ⟨mkX7_isOwed, rfl, (tm_4 (List.mem_of_getElem? (i := 150) (by decide +kernel))), (tm_4 (List.mem_of_getElem? (i := 151) (by decide +kernel))), (tm_4 (List.mem_of_getElem? (i := 152) (by decide +kernel)))⟩, _, rfl, rfl⟩
theorem lmL_97 : za_okm RL 97 (2, 0, 0, 4, mX7_init) := ⟨rfl, mkX7_init, rfl, rfl, rfl, (tm_1 (List.mem_of_getElem? (i := 27) (by decide +kernel))), (tm_1 (List.mem_of_getElem? (i := 28) (by decide +kernel)))⟩
theorem lnL_98 : za_nl RL 98 9 [.int (nI 0), .int (nI 0), .null, .null, .null, .null, .int (nI 0), .null, .null, .null, .null, .null, .null, .null, .null, .null, .int (nI 0), .null, .int (nI 0), .null, .null, .null, .null, .int (nI 0), .null, .null, .null, .null, .null, .null, .null, .null, .null, .null, .int (nI 0), .null, .null, .null, .null, .null, .null, .null, .null, .null, .null, .int (nI 0), .null, .null, .null, .int (nI 0)] := ⟨_, _, _, tyX8, rfl, (tm_4 (List.mem_of_getElem? (i := 154) (by decide +kernel))), (tm_4 (List.mem_of_getElem? (i := 155) (by decide +kernel))), (tm_1 (List.mem_of_getElem? (i := 5) (by decide +kernel))), uwX8, tyX8_ok, rfl, by decide +kernel⟩
theorem lmL_100 : za_okm RL 100 (2, 0, 0, 1, mX8_init) := ⟨rfl, mkX8_init, rfl, rfl, rfl, (tm_4 (List.mem_of_getElem? (i := 156) (by decide +kernel))), (tm_4 (List.mem_of_getElem? (i := 157) (by decide +kernel)))⟩
theorem lmL_101 : za_okm RL 101 (1, 3, 0, 9, mL_talk) := ⟨rfl, mkL_talk, (tm_1 (List.mem_of_getElem? (i := 94) (by decide +kernel))), (tm_1 (List.mem_of_getElem? (i := 95) (by decide +kernel)))⟩
theorem lmL_106 : za_okm RL 106 (0, 1, 9, 1, mX8_talk) := ⟨rfl, ⟨mkX8_talk, rfl, (tm_5 (List.mem_of_getElem? (i := 78) (by decide +kernel))), (tm_5 (List.mem_of_getElem? (i := 79) (by decide +kernel))), (tm_5 (List.mem_of_getElem? (i := 80) (by decide +kernel)))⟩, _, rfl, rfl⟩
theorem lmL_107 : za_okm RL 107 (0, 0, 9, 0, mX8_thrown) := ⟨rfl, ⟨mkX8_thrown, rfl, (tm_5 (List.mem_of_getElem? (i := 74) (by decide +kernel))), (tm_5 (List.mem_of_getElem? (i := 75) (by decide +kernel))), (tm_5 (List.mem_of_getElem? (i := 76) (by decide +kernel)))⟩, _, rfl, rfl⟩
theorem lmL_111 : za_okm RL 111 (1, 4, 0, 9, mL_music) := ⟨rfl, mkL_music, (tm_2 (List.mem_of_getElem? (i := 50) (by decide +kernel))), (tm_2 (List.mem_of_getElem? (i := 51) (by decide +kernel)))⟩
theorem lmL_114 : za_okm RL 114 (0, 2, 9, 1, mX8_music) := ⟨rfl, ⟨mkX8_music, rfl, (tm_5 (List.mem_of_getElem? (i := 93) (by decide +kernel))), (tm_5 (List.mem_of_getElem? (i := 94) (by decide +kernel))), (tm_5 (List.mem_of_getElem? (i := 95) (by decide +kernel)))⟩, _, rfl, rfl⟩
theorem lmL_115 : za_okm RL 115 (1, 3, 0, 9, mL_slot) := ⟨rfl, mkL_slot, (tm_2 (List.mem_of_getElem? (i := 81) (by decide +kernel))), (tm_2 (List.mem_of_getElem? (i := 82) (by decide +kernel)))⟩
theorem lmL_117 : za_okm RL 117 (0, 1, 9, 1, mX8_slot) := ⟨rfl, ⟨mkX8_slot, rfl, (tm_5 (List.mem_of_getElem? (i := 97) (by decide +kernel))), (tm_5 (List.mem_of_getElem? (i := 98) (by decide +kernel))), (tm_5 (List.mem_of_getElem? (i := 99) (by decide +kernel)))⟩, _, rfl, rfl⟩
theorem lmL_118 : za_okm RL 118 (1, 4, 0, 9, mL_item) := ⟨rfl, mkL_item, (tm_2 (List.mem_of_getElem? (i := 89) (by decide +kernel))), (tm_2 (List.mem_of_getElem? (i := 90) (by decide +kernel)))⟩
theorem lmL_120 : za_okm RL 120 (0, 2, 9, 2, mX8_item) := ⟨rfl, ⟨mkX8_item, rfl, (tm_5 (List.mem_of_getElem? (i := 101) (by decide +kernel))), (tm_5 (List.mem_of_getElem? (i := 102) (by decide +kernel))), (tm_5 (List.mem_of_getElem? (i := 103) (by decide +kernel)))⟩, _, rfl, rfl⟩
theorem lmL_121 : za_okm RL 121 (1, 4, 0, 9, mL_cut) := ⟨rfl, mkL_cut, (tm_2 (List.mem_of_getElem? (i := 170) (by decide +kernel))), (tm_2 (List.mem_of_getElem? (i := 171) (by decide +kernel)))⟩
theorem lmL_123 : za_okm RL 123 (0, 2, 9, 2, mX8_cut) := ⟨rfl, ⟨mkX8_cut, rfl, (tm_5 (List.mem_of_getElem? (i := 121) (by decide +kernel))), (tm_5 (List.mem_of_getElem? (i := 122) (by decide +kernel))), (tm_5 (List.mem_of_getElem? (i := 123) (by decide +kernel)))⟩, _, rfl, rfl⟩
theorem lmL_124 : za_okm RL 124 (1, 2, 0, 9, mL_withdraw) := ⟨rfl, mkL_withdraw, (tm_2 (List.mem_of_getElem? (i := 190) (by decide +kernel))), (tm_2 (List.mem_of_getElem? (i := 191) (by decide +kernel)))⟩
theorem lmL_127 : za_okm RL 127 (0, 1, 9, 2, mX8_withdraw) := ⟨rfl, ⟨mkX8_withdraw, rfl, (tm_5 (List.mem_of_getElem? (i := 133) (by decide +kernel))), (tm_5 (List.mem_of_getElem? (i := 134) (by decide +kernel))), (tm_5 (List.mem_of_getElem? (i := 135) (by decide +kernel)))⟩, _, rfl, rfl⟩
theorem lmL_128 : za_okm RL 128 (1, 3, 0, 9, mL_songOut) := ⟨rfl, mkL_songOut, (tm_2 (List.mem_of_getElem? (i := 198) (by decide +kernel))), (tm_2 (List.mem_of_getElem? (i := 199) (by decide +kernel)))⟩
theorem lmL_130 : za_okm RL 130 (0, 1, 9, 1, mX8_songOut) := ⟨rfl, ⟨mkX8_songOut, rfl, (tm_5 (List.mem_of_getElem? (i := 137) (by decide +kernel))), (tm_5 (List.mem_of_getElem? (i := 138) (by decide +kernel))), (tm_5 (List.mem_of_getElem? (i := 139) (by decide +kernel)))⟩, _, rfl, rfl⟩
theorem lmL_131 : za_okm RL 131 (1, 3, 0, 9, mL_pass) := ⟨rfl, mkL_pass, (tm_2 (List.mem_of_getElem? (i := 208) (by decide +kernel))), (tm_2 (List.mem_of_getElem? (i := 209) (by decide +kernel)))⟩
theorem lmL_133 : za_okm RL 133 (0, 1, 9, 2, mX8_pass) := ⟨rfl, ⟨mkX8_pass, rfl, (tm_5 (List.mem_of_getElem? (i := 141) (by decide +kernel))), (tm_5 (List.mem_of_getElem? (i := 142) (by decide +kernel))), (tm_5 (List.mem_of_getElem? (i := 143) (by decide +kernel)))⟩, _, rfl, rfl⟩
theorem lmL_134 : za_okm RL 134 (1, 3, 0, 8, mL_app) := ⟨rfl, mkL_app, (tm_2 (List.mem_of_getElem? (i := 221) (by decide +kernel))), (tm_2 (List.mem_of_getElem? (i := 222) (by decide +kernel)))⟩
theorem lmL_136 : za_okm RL 136 (0, 1, 9, 1, mX8_app) := ⟨rfl, ⟨mkX8_app, rfl, (tm_5 (List.mem_of_getElem? (i := 145) (by decide +kernel))), (tm_5 (List.mem_of_getElem? (i := 146) (by decide +kernel))), (tm_5 (List.mem_of_getElem? (i := 147) (by decide +kernel)))⟩, _, rfl, rfl⟩
theorem lmL_137 : za_okm RL 137 (1, 3, 0, 8, mL_poll) := ⟨rfl, mkL_poll, (tm_3 (List.mem_of_getElem? (i := 10) (by decide +kernel))), (tm_3 (List.mem_of_getElem? (i := 11) (by decide +kernel)))⟩
theorem lmL_139 : za_okm RL 139 (0, 1, 9, 1, mX8_poll) := ⟨rfl, ⟨mkX8_poll, rfl, (tm_5 (List.mem_of_getElem? (i := 149) (by decide +kernel))), (tm_5 (List.mem_of_getElem? (i := 150) (by decide +kernel))), (tm_5 (List.mem_of_getElem? (i := 151) (by decide +kernel)))⟩, _, rfl, rfl⟩
theorem lmL_140 : za_okm RL 140 (1, 9, 0, 8, mL_campaign) := ⟨rfl, mkL_campaign, (tm_3 (List.mem_of_getElem? (i := 27) (by decide +kernel))), (tm_3 (List.mem_of_getElem? (i := 28) (by decide +kernel)))⟩
theorem lmL_143 : za_okm RL 143 (0, 7, 9, 2, mX8_campaign) := ⟨rfl, ⟨mkX8_campaign, rfl, (tm_5 (List.mem_of_getElem? (i := 157) (by decide +kernel))), (tm_5 (List.mem_of_getElem? (i := 158) (by decide +kernel))), (tm_5 (List.mem_of_getElem? (i := 159) (by decide +kernel)))⟩, _, rfl, rfl⟩
theorem lmL_144 : za_okm RL 144 (1, 4, 0, 10, mL_ask) := ⟨rfl, mkL_ask, (tm_3 (List.mem_of_getElem? (i := 78) (by decide +kernel))), (tm_3 (List.mem_of_getElem? (i := 79) (by decide +kernel)))⟩
theorem lmL_146 : za_okm RL 146 (0, 2, 9, 3, mX8_ask) := ⟨rfl, ⟨mkX8_ask, rfl, (tm_5 (List.mem_of_getElem? (i := 164) (by decide +kernel))), (tm_5 (List.mem_of_getElem? (i := 165) (by decide +kernel))), (tm_5 (List.mem_of_getElem? (i := 166) (by decide +kernel)))⟩, _, rfl, rfl⟩
theorem lmL_147 : za_okm RL 147 (1, 5, 0, 9, mL_load) := ⟨rfl, mkL_load, (tm_3 (List.mem_of_getElem? (i := 191) (by decide +kernel))), (tm_3 (List.mem_of_getElem? (i := 192) (by decide +kernel)))⟩
theorem lmL_150 : za_okm RL 150 (0, 3, 9, 2, mX8_load) := ⟨rfl, ⟨mkX8_load, rfl, (tm_5 (List.mem_of_getElem? (i := 184) (by decide +kernel))), (tm_5 (List.mem_of_getElem? (i := 185) (by decide +kernel))), (tm_5 (List.mem_of_getElem? (i := 186) (by decide +kernel)))⟩, _, rfl, rfl⟩
theorem lmL_151 : za_okm RL 151 (1, 4, 0, 8, mL_bot) := ⟨rfl, mkL_bot, (tm_3 (List.mem_of_getElem? (i := 239) (by decide +kernel))), (tm_4 (List.mem_of_getElem? (i := 0) (by decide +kernel)))⟩
theorem lmL_154 : za_okm RL 154 (0, 2, 9, 1, mX8_bot) := ⟨rfl, ⟨mkX8_bot, rfl, (tm_5 (List.mem_of_getElem? (i := 192) (by decide +kernel))), (tm_5 (List.mem_of_getElem? (i := 193) (by decide +kernel))), (tm_5 (List.mem_of_getElem? (i := 194) (by decide +kernel)))⟩, _, rfl, rfl⟩
theorem lmL_155 : za_okm RL 155 (1, 4, 0, 8, mL_tell) := ⟨rfl, mkL_tell, (tm_4 (List.mem_of_getElem? (i := 6) (by decide +kernel))), (tm_4 (List.mem_of_getElem? (i := 7) (by decide +kernel)))⟩
theorem lmL_157 : za_okm RL 157 (0, 2, 9, 4, mX8_tell) := ⟨rfl, ⟨mkX8_tell, rfl, (tm_5 (List.mem_of_getElem? (i := 196) (by decide +kernel))), (tm_5 (List.mem_of_getElem? (i := 197) (by decide +kernel))), (tm_5 (List.mem_of_getElem? (i := 198) (by decide +kernel)))⟩, _, rfl, rfl⟩
theorem lmL_158 : za_okm RL 158 (0, 0, 8, 0, mX7_hour) := ⟨rfl, ⟨mkX7_hour, rfl, (tm_1 (List.mem_of_getElem? (i := 90) (by decide +kernel))), (tm_1 (List.mem_of_getElem? (i := 91) (by decide +kernel))), (tm_1 (List.mem_of_getElem? (i := 92) (by decide +kernel)))⟩, _, rfl, rfl⟩
theorem lmL_161 : za_okm RL 161 (0, 0, 9, 1, mX8_hour) := ⟨rfl, ⟨mkX8_hour, rfl, (tm_5 (List.mem_of_getElem? (i := 224) (by decide +kernel))), (tm_5 (List.mem_of_getElem? (i := 225) (by decide +kernel))), (tm_5 (List.mem_of_getElem? (i := 226) (by decide +kernel)))⟩, _, rfl, rfl⟩
theorem lmL_162 : za_okm RL 162 (1, 4, 0, 8, mL_ofItem) := ⟨rfl, mkL_ofItem, (tm_4 (List.mem_of_getElem? (i := 30) (by decide +kernel))), (tm_4 (List.mem_of_getElem? (i := 31) (by decide +kernel)))⟩
theorem lmL_164 : za_okm RL 164 (0, 2, 9, 2, mX8_ofItem) := ⟨rfl, ⟨mkX8_ofItem, rfl, (tm_5 (List.mem_of_getElem? (i := 228) (by decide +kernel))), (tm_5 (List.mem_of_getElem? (i := 229) (by decide +kernel))), (tm_5 (List.mem_of_getElem? (i := 230) (by decide +kernel)))⟩, _, rfl, rfl⟩
theorem lmL_165 : za_okm RL 165 (1, 5, 0, 8, mL_ofPart) := ⟨rfl, mkL_ofPart, (tm_4 (List.mem_of_getElem? (i := 46) (by decide +kernel))), (tm_4 (List.mem_of_getElem? (i := 47) (by decide +kernel)))⟩
theorem lmL_167 : za_okm RL 167 (0, 3, 9, 2, mX8_ofPart) := ⟨rfl, ⟨mkX8_ofPart, rfl, (tm_6 (List.mem_of_getElem? (i := 0) (by decide +kernel))), (tm_6 (List.mem_of_getElem? (i := 1) (by decide +kernel))), (tm_6 (List.mem_of_getElem? (i := 2) (by decide +kernel)))⟩, _, rfl, rfl⟩
theorem lmL_168 : za_okm RL 168 (1, 4, 0, 8, mL_told) := ⟨rfl, mkL_told, (tm_4 (List.mem_of_getElem? (i := 53) (by decide +kernel))), (tm_4 (List.mem_of_getElem? (i := 54) (by decide +kernel)))⟩
theorem lmL_170 : za_okm RL 170 (0, 2, 9, 1, mX8_told) := ⟨rfl, ⟨mkX8_told, rfl, (tm_6 (List.mem_of_getElem? (i := 4) (by decide +kernel))), (tm_6 (List.mem_of_getElem? (i := 5) (by decide +kernel))), (tm_6 (List.mem_of_getElem? (i := 6) (by decide +kernel)))⟩, _, rfl, rfl⟩
theorem lmL_171 : za_okm RL 171 (1, 4, 0, 8, mL_ofCampaign) := ⟨rfl, mkL_ofCampaign, (tm_4 (List.mem_of_getElem? (i := 61) (by decide +kernel))), (tm_4 (List.mem_of_getElem? (i := 62) (by decide +kernel)))⟩
theorem lmL_173 : za_okm RL 173 (0, 2, 9, 4, mX8_ofCampaign) := ⟨rfl, ⟨mkX8_ofCampaign, rfl, (tm_6 (List.mem_of_getElem? (i := 8) (by decide +kernel))), (tm_6 (List.mem_of_getElem? (i := 9) (by decide +kernel))), (tm_6 (List.mem_of_getElem? (i := 10) (by decide +kernel)))⟩, _, rfl, rfl⟩
theorem lmL_174 : za_okm RL 174 (1, 4, 0, 8, mL_ofDownload) := ⟨rfl, mkL_ofDownload, (tm_4 (List.mem_of_getElem? (i := 81) (by decide +kernel))), (tm_4 (List.mem_of_getElem? (i := 82) (by decide +kernel)))⟩
theorem lmL_176 : za_okm RL 176 (0, 2, 9, 5, mX8_ofDownload) := ⟨rfl, ⟨mkX8_ofDownload, rfl, (tm_6 (List.mem_of_getElem? (i := 20) (by decide +kernel))), (tm_6 (List.mem_of_getElem? (i := 21) (by decide +kernel))), (tm_6 (List.mem_of_getElem? (i := 22) (by decide +kernel)))⟩, _, rfl, rfl⟩
theorem lmL_177 : za_okm RL 177 (1, 4, 0, 8, mL_ad) := ⟨rfl, mkL_ad, (tm_4 (List.mem_of_getElem? (i := 100) (by decide +kernel))), (tm_4 (List.mem_of_getElem? (i := 101) (by decide +kernel)))⟩
theorem lmL_179 : za_okm RL 179 (0, 2, 9, 2, mX8_ad) := ⟨rfl, ⟨mkX8_ad, rfl, (tm_6 (List.mem_of_getElem? (i := 32) (by decide +kernel))), (tm_6 (List.mem_of_getElem? (i := 33) (by decide +kernel))), (tm_6 (List.mem_of_getElem? (i := 34) (by decide +kernel)))⟩, _, rfl, rfl⟩
theorem lmL_180 : za_okm RL 180 (1, 3, 0, 8, mL_loadedAnew) := ⟨rfl, mkL_loadedAnew, (tm_4 (List.mem_of_getElem? (i := 109) (by decide +kernel))), (tm_4 (List.mem_of_getElem? (i := 110) (by decide +kernel)))⟩
theorem lmL_182 : za_okm RL 182 (0, 1, 9, 2, mX8_loadedAnew) := ⟨rfl, ⟨mkX8_loadedAnew, rfl, (tm_6 (List.mem_of_getElem? (i := 36) (by decide +kernel))), (tm_6 (List.mem_of_getElem? (i := 37) (by decide +kernel))), (tm_6 (List.mem_of_getElem? (i := 38) (by decide +kernel)))⟩, _, rfl, rfl⟩
theorem lmL_183 : za_okm RL 183 (1, 4, 0, 8, mL_counts) := ⟨rfl, mkL_counts, (tm_4 (List.mem_of_getElem? (i := 117) (by decide +kernel))), (tm_4 (List.mem_of_getElem? (i := 118) (by decide +kernel)))⟩
theorem lmL_185 : za_okm RL 185 (0, 2, 9, 2, mX8_counts) := ⟨rfl, ⟨mkX8_counts, rfl, (tm_6 (List.mem_of_getElem? (i := 40) (by decide +kernel))), (tm_6 (List.mem_of_getElem? (i := 41) (by decide +kernel))), (tm_6 (List.mem_of_getElem? (i := 42) (by decide +kernel)))⟩, _, rfl, rfl⟩
theorem lmL_186 : za_okm RL 186 (1, 4, 0, 8, mL_count) := ⟨rfl, mkL_count, (tm_4 (List.mem_of_getElem? (i := 140) (by decide +kernel))), (tm_4 (List.mem_of_getElem? (i := 141) (by decide +kernel)))⟩
theorem lmL_188 : za_okm RL 188 (0, 2, 9, 2, mX8_count) := ⟨rfl, ⟨mkX8_count, rfl, (tm_6 (List.mem_of_getElem? (i := 48) (by decide +kernel))), (tm_6 (List.mem_of_getElem? (i := 49) (by decide +kernel))), (tm_6 (List.mem_of_getElem? (i := 50) (by decide +kernel)))⟩, _, rfl, rfl⟩
theorem lmL_189 : za_okm RL 189 (1, 4, 0, 8, mL_isOwed) := ⟨rfl, mkL_isOwed, (tm_4 (List.mem_of_getElem? (i := 147) (by decide +kernel))), (tm_4 (List.mem_of_getElem? (i := 148) (by decide +kernel)))⟩
theorem lmL_191 : za_okm RL 191 (0, 2, 9, 4, mX8_isOwed) := ⟨rfl, ⟨mkX8_isOwed, rfl, (tm_6 (List.mem_of_getElem? (i := 52) (by decide +kernel))), (tm_6 (List.mem_of_getElem? (i := 53) (by decide +kernel))), (tm_6 (List.mem_of_getElem? (i := 54) (by decide +kernel)))⟩, _, rfl, rfl⟩
def flL : List (Nat × (Nat × Nat × FieldType × Nat)) := []
def mtL : List (Nat × (Nat × Nat × Nat × Nat × za_M)) := [(7, (0, 1, 8, 8, mX7_talk)), (17, (0, 2, 8, 8, mX7_music)), (23, (0, 1, 8, 8, mX7_slot)), (26, (0, 2, 8, 8, mX7_item)), (29, (0, 2, 8, 8, mX7_cut)), (32, (0, 1, 8, 8, mX7_withdraw)), (36, (0, 1, 8, 8, mX7_songOut)), (39, (0, 1, 8, 8, mX7_pass)), (42, (0, 1, 8, 7, mX7_app)), (45, (0, 1, 8, 7, mX7_poll)), (48, (0, 7, 8, 7, mX7_campaign)), (52, (0, 2, 8, 9, mX7_ask)), (55, (0, 3, 8, 8, mX7_load)), (59, (0, 2, 8, 7, mX7_bot)), (63, (0, 2, 8, 7, mX7_tell)), (67, (0, 2, 8, 7, mX7_ofItem)), (70, (0, 3, 8, 7, mX7_ofPart)), (73, (0, 2, 8, 7, mX7_told)), (76, (0, 2, 8, 7, mX7_ofCampaign)), (79, (0, 2, 8, 7, mX7_ofDownload)), (82, (0, 2, 8, 7, mX7_ad)), (85, (0, 1, 8, 7, mX7_loadedAnew)), (88, (0, 2, 8, 7, mX7_counts)), (91, (0, 2, 8, 7, mX7_count)), (94, (0, 2, 8, 7, mX7_isOwed)), (97, (2, 0, 0, 4, mX7_init)), (100, (2, 0, 0, 1, mX8_init)), (101, (1, 3, 0, 9, mL_talk)), (106, (0, 1, 9, 1, mX8_talk)), (107, (0, 0, 9, 0, mX8_thrown)), (111, (1, 4, 0, 9, mL_music)), (114, (0, 2, 9, 1, mX8_music)), (115, (1, 3, 0, 9, mL_slot)), (117, (0, 1, 9, 1, mX8_slot)), (118, (1, 4, 0, 9, mL_item)), (120, (0, 2, 9, 2, mX8_item)), (121, (1, 4, 0, 9, mL_cut)), (123, (0, 2, 9, 2, mX8_cut)), (124, (1, 2, 0, 9, mL_withdraw)), (127, (0, 1, 9, 2, mX8_withdraw)), (128, (1, 3, 0, 9, mL_songOut)), (130, (0, 1, 9, 1, mX8_songOut)), (131, (1, 3, 0, 9, mL_pass)), (133, (0, 1, 9, 2, mX8_pass)), (134, (1, 3, 0, 8, mL_app)), (136, (0, 1, 9, 1, mX8_app)), (137, (1, 3, 0, 8, mL_poll)), (139, (0, 1, 9, 1, mX8_poll)), (140, (1, 9, 0, 8, mL_campaign)), (143, (0, 7, 9, 2, mX8_campaign)), (144, (1, 4, 0, 10, mL_ask)), (146, (0, 2, 9, 3, mX8_ask)), (147, (1, 5, 0, 9, mL_load)), (150, (0, 3, 9, 2, mX8_load)), (151, (1, 4, 0, 8, mL_bot)), (154, (0, 2, 9, 1, mX8_bot)), (155, (1, 4, 0, 8, mL_tell)), (157, (0, 2, 9, 4, mX8_tell)), (158, (0, 0, 8, 0, mX7_hour)), (161, (0, 0, 9, 1, mX8_hour)), (162, (1, 4, 0, 8, mL_ofItem)), (164, (0, 2, 9, 2, mX8_ofItem)), (165, (1, 5, 0, 8, mL_ofPart)), (167, (0, 3, 9, 2, mX8_ofPart)), (168, (1, 4, 0, 8, mL_told)), (170, (0, 2, 9, 1, mX8_told)), (171, (1, 4, 0, 8, mL_ofCampaign)), (173, (0, 2, 9, 4, mX8_ofCampaign)), (174, (1, 4, 0, 8, mL_ofDownload)), (176, (0, 2, 9, 5, mX8_ofDownload)), (177, (1, 4, 0, 8, mL_ad)), (179, (0, 2, 9, 2, mX8_ad)), (180, (1, 3, 0, 8, mL_loadedAnew)), (182, (0, 1, 9, 2, mX8_loadedAnew)), (183, (1, 4, 0, 8, mL_counts)), (185, (0, 2, 9, 2, mX8_counts)), (186, (1, 4, 0, 8, mL_count)), (188, (0, 2, 9, 2, mX8_count)), (189, (1, 4, 0, 8, mL_isOwed)), (191, (0, 2, 9, 4, mX8_isOwed))]
def nwL : List (Nat × (Nat × List Value)) := [(8, (8, [.null, .null, .null, .null, .null, .null, .int (nI 0), .int (nI 0), .int (nI 0), .int (nI 0)])), (98, (9, [.int (nI 0), .int (nI 0), .null, .null, .null, .null, .int (nI 0), .null, .null, .null, .null, .null, .null, .null, .null, .null, .int (nI 0), .null, .int (nI 0), .null, .null, .null, .null, .int (nI 0), .null, .null, .null, .null, .null, .null, .null, .null, .null, .null, .int (nI 0), .null, .null, .null, .null, .null, .null, .null, .null, .null, .null, .int (nI 0), .null, .null, .null, .int (nI 0)]))]
def thL : List (Nat × (Nat × Nat)) := []
def ckL : List (Nat × Nat) := []
def lkL : za_LK := (za_lu flL, za_lu mtL, za_lu nwL, za_lu thL, (fun i => ([] : List Nat).elem i), za_lu ckL)
theorem okL : za_lk RL lkL := ⟨za_lu_ok (l := flL) (Q := fun i q => za_fl RL i q.1 q.2.1 q.2.2.1 q.2.2.2) za_nil, za_lu_ok (l := mtL) (Q := za_okm RL) (za_cons lmL_7 (za_cons lmL_17 (za_cons lmL_23 (za_cons lmL_26 (za_cons lmL_29 (za_cons lmL_32 (za_cons lmL_36 (za_cons lmL_39 (za_cons lmL_42 (za_cons lmL_45 (za_cons lmL_48 (za_cons lmL_52 (za_cons lmL_55 (za_cons lmL_59 (za_cons lmL_63 (za_cons lmL_67 (za_cons lmL_70 (za_cons lmL_73 (za_cons lmL_76 (za_cons lmL_79 (za_cons lmL_82 (za_cons lmL_85 (za_cons lmL_88 (za_cons lmL_91 (za_cons lmL_94 (za_cons lmL_97 (za_cons lmL_100 (za_cons lmL_101 (za_cons lmL_106 (za_cons lmL_107 (za_cons lmL_111 (za_cons lmL_114 (za_cons lmL_115 (za_cons lmL_117 (za_cons lmL_118 (za_cons lmL_120 (za_cons lmL_121 (za_cons lmL_123 (za_cons lmL_124 (za_cons lmL_127 (za_cons lmL_128 (za_cons lmL_130 (za_cons lmL_131 (za_cons lmL_133 (za_cons lmL_134 (za_cons lmL_136 (za_cons lmL_137 (za_cons lmL_139 (za_cons lmL_140 (za_cons lmL_143 (za_cons lmL_144 (za_cons lmL_146 (za_cons lmL_147 (za_cons lmL_150 (za_cons lmL_151 (za_cons lmL_154 (za_cons lmL_155 (za_cons lmL_157 (za_cons lmL_158 (za_cons lmL_161 (za_cons lmL_162 (za_cons lmL_164 (za_cons lmL_165 (za_cons lmL_167 (za_cons lmL_168 (za_cons lmL_170 (za_cons lmL_171 (za_cons lmL_173 (za_cons lmL_174 (za_cons lmL_176 (za_cons lmL_177 (za_cons lmL_179 (za_cons lmL_180 (za_cons lmL_182 (za_cons lmL_183 (za_cons lmL_185 (za_cons lmL_186 (za_cons lmL_188 (za_cons lmL_189 (za_cons lmL_191 za_nil)))))))))))))))))))))))))))))))))))))))))))))))))))))))))))))))))))))))))))))))), za_lu_ok (l := nwL) (Q := fun i q => za_nl RL i q.1 q.2) (za_cons lnL_8 (za_cons lnL_98 za_nil)), fun i q j h hj => za_lu_ok (l := thL) (Q := fun i q => ∀ j, ([] : List Nat).elem j = true → za_tl RL i j q.2 q.1) za_nil i q h j hj, za_lu_ok (l := ckL) (Q := fun i ci => ∃ r, vwCl[ci]? = some r ∧ Jvm.Cond.classLink RL i r.1 ∈ lw_tbl) za_nil⟩
theorem uL_m7 : za_LK.mt lkL 7 = some (0, 1, 8, 8, mX7_talk) := rfl
theorem uL_m17 : za_LK.mt lkL 17 = some (0, 2, 8, 8, mX7_music) := rfl
theorem uL_m23 : za_LK.mt lkL 23 = some (0, 1, 8, 8, mX7_slot) := rfl
theorem uL_m26 : za_LK.mt lkL 26 = some (0, 2, 8, 8, mX7_item) := rfl
theorem uL_m29 : za_LK.mt lkL 29 = some (0, 2, 8, 8, mX7_cut) := rfl
theorem uL_m32 : za_LK.mt lkL 32 = some (0, 1, 8, 8, mX7_withdraw) := rfl
theorem uL_m36 : za_LK.mt lkL 36 = some (0, 1, 8, 8, mX7_songOut) := rfl
theorem uL_m39 : za_LK.mt lkL 39 = some (0, 1, 8, 8, mX7_pass) := rfl
theorem uL_m42 : za_LK.mt lkL 42 = some (0, 1, 8, 7, mX7_app) := rfl
theorem uL_m45 : za_LK.mt lkL 45 = some (0, 1, 8, 7, mX7_poll) := rfl
theorem uL_m48 : za_LK.mt lkL 48 = some (0, 7, 8, 7, mX7_campaign) := rfl
theorem uL_m52 : za_LK.mt lkL 52 = some (0, 2, 8, 9, mX7_ask) := rfl
theorem uL_m55 : za_LK.mt lkL 55 = some (0, 3, 8, 8, mX7_load) := rfl
theorem uL_m59 : za_LK.mt lkL 59 = some (0, 2, 8, 7, mX7_bot) := rfl
theorem uL_m63 : za_LK.mt lkL 63 = some (0, 2, 8, 7, mX7_tell) := rfl
theorem uL_m67 : za_LK.mt lkL 67 = some (0, 2, 8, 7, mX7_ofItem) := rfl
theorem uL_m70 : za_LK.mt lkL 70 = some (0, 3, 8, 7, mX7_ofPart) := rfl
theorem uL_m73 : za_LK.mt lkL 73 = some (0, 2, 8, 7, mX7_told) := rfl
theorem uL_m76 : za_LK.mt lkL 76 = some (0, 2, 8, 7, mX7_ofCampaign) := rfl
theorem uL_m79 : za_LK.mt lkL 79 = some (0, 2, 8, 7, mX7_ofDownload) := rfl
theorem uL_m82 : za_LK.mt lkL 82 = some (0, 2, 8, 7, mX7_ad) := rfl
theorem uL_m85 : za_LK.mt lkL 85 = some (0, 1, 8, 7, mX7_loadedAnew) := rfl
theorem uL_m88 : za_LK.mt lkL 88 = some (0, 2, 8, 7, mX7_counts) := rfl
theorem uL_m91 : za_LK.mt lkL 91 = some (0, 2, 8, 7, mX7_count) := rfl
theorem uL_m94 : za_LK.mt lkL 94 = some (0, 2, 8, 7, mX7_isOwed) := rfl
theorem uL_m97 : za_LK.mt lkL 97 = some (2, 0, 0, 4, mX7_init) := rfl
theorem uL_m100 : za_LK.mt lkL 100 = some (2, 0, 0, 1, mX8_init) := rfl
theorem uL_m101 : za_LK.mt lkL 101 = some (1, 3, 0, 9, mL_talk) := rfl
theorem uL_m106 : za_LK.mt lkL 106 = some (0, 1, 9, 1, mX8_talk) := rfl
theorem uL_m107 : za_LK.mt lkL 107 = some (0, 0, 9, 0, mX8_thrown) := rfl
theorem uL_m111 : za_LK.mt lkL 111 = some (1, 4, 0, 9, mL_music) := rfl
theorem uL_m114 : za_LK.mt lkL 114 = some (0, 2, 9, 1, mX8_music) := rfl
theorem uL_m115 : za_LK.mt lkL 115 = some (1, 3, 0, 9, mL_slot) := rfl
theorem uL_m117 : za_LK.mt lkL 117 = some (0, 1, 9, 1, mX8_slot) := rfl
theorem uL_m118 : za_LK.mt lkL 118 = some (1, 4, 0, 9, mL_item) := rfl
theorem uL_m120 : za_LK.mt lkL 120 = some (0, 2, 9, 2, mX8_item) := rfl
theorem uL_m121 : za_LK.mt lkL 121 = some (1, 4, 0, 9, mL_cut) := rfl
theorem uL_m123 : za_LK.mt lkL 123 = some (0, 2, 9, 2, mX8_cut) := rfl
theorem uL_m124 : za_LK.mt lkL 124 = some (1, 2, 0, 9, mL_withdraw) := rfl
theorem uL_m127 : za_LK.mt lkL 127 = some (0, 1, 9, 2, mX8_withdraw) := rfl
theorem uL_m128 : za_LK.mt lkL 128 = some (1, 3, 0, 9, mL_songOut) := rfl
theorem uL_m130 : za_LK.mt lkL 130 = some (0, 1, 9, 1, mX8_songOut) := rfl
theorem uL_m131 : za_LK.mt lkL 131 = some (1, 3, 0, 9, mL_pass) := rfl
theorem uL_m133 : za_LK.mt lkL 133 = some (0, 1, 9, 2, mX8_pass) := rfl
theorem uL_m134 : za_LK.mt lkL 134 = some (1, 3, 0, 8, mL_app) := rfl
theorem uL_m136 : za_LK.mt lkL 136 = some (0, 1, 9, 1, mX8_app) := rfl
theorem uL_m137 : za_LK.mt lkL 137 = some (1, 3, 0, 8, mL_poll) := rfl
theorem uL_m139 : za_LK.mt lkL 139 = some (0, 1, 9, 1, mX8_poll) := rfl
theorem uL_m140 : za_LK.mt lkL 140 = some (1, 9, 0, 8, mL_campaign) := rfl
theorem uL_m143 : za_LK.mt lkL 143 = some (0, 7, 9, 2, mX8_campaign) := rfl
theorem uL_m144 : za_LK.mt lkL 144 = some (1, 4, 0, 10, mL_ask) := rfl
theorem uL_m146 : za_LK.mt lkL 146 = some (0, 2, 9, 3, mX8_ask) := rfl
theorem uL_m147 : za_LK.mt lkL 147 = some (1, 5, 0, 9, mL_load) := rfl
theorem uL_m150 : za_LK.mt lkL 150 = some (0, 3, 9, 2, mX8_load) := rfl
theorem uL_m151 : za_LK.mt lkL 151 = some (1, 4, 0, 8, mL_bot) := rfl
theorem uL_m154 : za_LK.mt lkL 154 = some (0, 2, 9, 1, mX8_bot) := rfl
theorem uL_m155 : za_LK.mt lkL 155 = some (1, 4, 0, 8, mL_tell) := rfl
theorem uL_m157 : za_LK.mt lkL 157 = some (0, 2, 9, 4, mX8_tell) := rfl
theorem uL_m158 : za_LK.mt lkL 158 = some (0, 0, 8, 0, mX7_hour) := rfl
theorem uL_m161 : za_LK.mt lkL 161 = some (0, 0, 9, 1, mX8_hour) := rfl
theorem uL_m162 : za_LK.mt lkL 162 = some (1, 4, 0, 8, mL_ofItem) := rfl
theorem uL_m164 : za_LK.mt lkL 164 = some (0, 2, 9, 2, mX8_ofItem) := rfl
theorem uL_m165 : za_LK.mt lkL 165 = some (1, 5, 0, 8, mL_ofPart) := rfl
theorem uL_m167 : za_LK.mt lkL 167 = some (0, 3, 9, 2, mX8_ofPart) := rfl
theorem uL_m168 : za_LK.mt lkL 168 = some (1, 4, 0, 8, mL_told) := rfl
theorem uL_m170 : za_LK.mt lkL 170 = some (0, 2, 9, 1, mX8_told) := rfl
theorem uL_m171 : za_LK.mt lkL 171 = some (1, 4, 0, 8, mL_ofCampaign) := rfl
theorem uL_m173 : za_LK.mt lkL 173 = some (0, 2, 9, 4, mX8_ofCampaign) := rfl
theorem uL_m174 : za_LK.mt lkL 174 = some (1, 4, 0, 8, mL_ofDownload) := rfl
theorem uL_m176 : za_LK.mt lkL 176 = some (0, 2, 9, 5, mX8_ofDownload) := rfl
theorem uL_m177 : za_LK.mt lkL 177 = some (1, 4, 0, 8, mL_ad) := rfl
theorem uL_m179 : za_LK.mt lkL 179 = some (0, 2, 9, 2, mX8_ad) := rfl
theorem uL_m180 : za_LK.mt lkL 180 = some (1, 3, 0, 8, mL_loadedAnew) := rfl
theorem uL_m182 : za_LK.mt lkL 182 = some (0, 1, 9, 2, mX8_loadedAnew) := rfl
theorem uL_m183 : za_LK.mt lkL 183 = some (1, 4, 0, 8, mL_counts) := rfl
theorem uL_m185 : za_LK.mt lkL 185 = some (0, 2, 9, 2, mX8_counts) := rfl
theorem uL_m186 : za_LK.mt lkL 186 = some (1, 4, 0, 8, mL_count) := rfl
theorem uL_m188 : za_LK.mt lkL 188 = some (0, 2, 9, 2, mX8_count) := rfl
theorem uL_m189 : za_LK.mt lkL 189 = some (1, 4, 0, 8, mL_isOwed) := rfl
theorem uL_m191 : za_LK.mt lkL 191 = some (0, 2, 9, 4, mX8_isOwed) := rfl
theorem uL_n8 : za_LK.nw lkL 8 = some (8, [.null, .null, .null, .null, .null, .null, .int (nI 0), .int (nI 0), .int (nI 0), .int (nI 0)]) := rfl
theorem uL_n98 : za_LK.nw lkL 98 = some (9, [.int (nI 0), .int (nI 0), .null, .null, .null, .null, .int (nI 0), .null, .null, .null, .null, .null, .null, .null, .null, .null, .int (nI 0), .null, .int (nI 0), .null, .null, .null, .null, .int (nI 0), .null, .null, .null, .null, .null, .null, .null, .null, .null, .null, .int (nI 0), .null, .null, .null, .null, .null, .null, .null, .null, .null, .null, .int (nI 0), .null, .null, .null, .int (nI 0)]) := rfl
