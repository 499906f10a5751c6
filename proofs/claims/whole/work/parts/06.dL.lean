theorem dL_talk_0 : decode cL_talk 0 = .ok (.aload_n 2, 1) := by decide +kernel
theorem dL_talk_1 : decode cL_talk 1 = .ok (.iconst 0, 1) := by decide +kernel
theorem dL_talk_2 : decode cL_talk 2 = .ok (.aload_n 0, 1) := by decide +kernel
theorem dL_talk_3 : decode cL_talk 3 = .ok (.iload_n 1, 1) := by decide +kernel
theorem dL_talk_4 : decode cL_talk 4 = .ok (.invokevirtual 7, 3) := by decide +kernel
theorem dL_talk_7 : decode cL_talk 7 = .ok (.i2l, 1) := by decide +kernel
theorem dL_talk_8 : decode cL_talk 8 = .ok (.lastore, 1) := by decide +kernel
theorem dL_talk_9 : decode cL_talk 9 = .ok (.goto 9, 3) := by decide +kernel
theorem dL_talk_12 : decode cL_talk 12 = .ok (.astore_n 3, 1) := by decide +kernel
theorem dL_talk_13 : decode cL_talk 13 = .ok (.iconst 1, 1) := by decide +kernel
theorem dL_talk_14 : decode cL_talk 14 = .ok (.ireturn, 1) := by decide +kernel
theorem dL_talk_15 : decode cL_talk 15 = .ok (.astore_n 3, 1) := by decide +kernel
theorem dL_talk_16 : decode cL_talk 16 = .ok (.iconst 2, 1) := by decide +kernel
theorem dL_talk_17 : decode cL_talk 17 = .ok (.ireturn, 1) := by decide +kernel
theorem dL_talk_18 : decode cL_talk 18 = .ok (.iconst 0, 1) := by decide +kernel
theorem dL_talk_19 : decode cL_talk 19 = .ok (.ireturn, 1) := by decide +kernel
theorem dL_music_0 : decode cL_music 0 = .ok (.aload_n 3, 1) := by decide +kernel
theorem dL_music_1 : decode cL_music 1 = .ok (.iconst 0, 1) := by decide +kernel
theorem dL_music_2 : decode cL_music 2 = .ok (.aload_n 0, 1) := by decide +kernel
theorem dL_music_3 : decode cL_music 3 = .ok (.iload_n 1, 1) := by decide +kernel
theorem dL_music_4 : decode cL_music 4 = .ok (.iload_n 2, 1) := by decide +kernel
theorem dL_music_5 : decode cL_music 5 = .ok (.invokevirtual 17, 3) := by decide +kernel
theorem dL_music_8 : decode cL_music 8 = .ok (.i2l, 1) := by decide +kernel
theorem dL_music_9 : decode cL_music 9 = .ok (.lastore, 1) := by decide +kernel
theorem dL_music_10 : decode cL_music 10 = .ok (.goto 15, 3) := by decide +kernel
theorem dL_music_13 : decode cL_music 13 = .ok (.astore 4, 2) := by decide +kernel
theorem dL_music_15 : decode cL_music 15 = .ok (.iconst 1, 1) := by decide +kernel
theorem dL_music_16 : decode cL_music 16 = .ok (.ireturn, 1) := by decide +kernel
theorem dL_music_17 : decode cL_music 17 = .ok (.astore 4, 2) := by decide +kernel
theorem dL_music_19 : decode cL_music 19 = .ok (.iconst 2, 1) := by decide +kernel
theorem dL_music_20 : decode cL_music 20 = .ok (.ireturn, 1) := by decide +kernel
theorem dL_music_21 : decode cL_music 21 = .ok (.astore 4, 2) := by decide +kernel
theorem dL_music_23 : decode cL_music 23 = .ok (.iconst 3, 1) := by decide +kernel
theorem dL_music_24 : decode cL_music 24 = .ok (.ireturn, 1) := by decide +kernel
theorem dL_music_25 : decode cL_music 25 = .ok (.iconst 0, 1) := by decide +kernel
theorem dL_music_26 : decode cL_music 26 = .ok (.ireturn, 1) := by decide +kernel
theorem dL_slot_0 : decode cL_slot 0 = .ok (.aload_n 2, 1) := by decide +kernel
theorem dL_slot_1 : decode cL_slot 1 = .ok (.iconst 0, 1) := by decide +kernel
theorem dL_slot_2 : decode cL_slot 2 = .ok (.aload_n 0, 1) := by decide +kernel
theorem dL_slot_3 : decode cL_slot 3 = .ok (.iload_n 1, 1) := by decide +kernel
theorem dL_slot_4 : decode cL_slot 4 = .ok (.invokevirtual 23, 3) := by decide +kernel
theorem dL_slot_7 : decode cL_slot 7 = .ok (.i2l, 1) := by decide +kernel
theorem dL_slot_8 : decode cL_slot 8 = .ok (.lastore, 1) := by decide +kernel
theorem dL_slot_9 : decode cL_slot 9 = .ok (.goto 9, 3) := by decide +kernel
theorem dL_slot_12 : decode cL_slot 12 = .ok (.astore_n 3, 1) := by decide +kernel
theorem dL_slot_13 : decode cL_slot 13 = .ok (.iconst 1, 1) := by decide +kernel
theorem dL_slot_14 : decode cL_slot 14 = .ok (.ireturn, 1) := by decide +kernel
theorem dL_slot_15 : decode cL_slot 15 = .ok (.astore_n 3, 1) := by decide +kernel
theorem dL_slot_16 : decode cL_slot 16 = .ok (.iconst 2, 1) := by decide +kernel
theorem dL_slot_17 : decode cL_slot 17 = .ok (.ireturn, 1) := by decide +kernel
theorem dL_slot_18 : decode cL_slot 18 = .ok (.iconst 0, 1) := by decide +kernel
theorem dL_slot_19 : decode cL_slot 19 = .ok (.ireturn, 1) := by decide +kernel
theorem dL_item_0 : decode cL_item 0 = .ok (.aload_n 3, 1) := by decide +kernel
theorem dL_item_1 : decode cL_item 1 = .ok (.iconst 0, 1) := by decide +kernel
theorem dL_item_2 : decode cL_item 2 = .ok (.aload_n 0, 1) := by decide +kernel
theorem dL_item_3 : decode cL_item 3 = .ok (.iload_n 1, 1) := by decide +kernel
theorem dL_item_4 : decode cL_item 4 = .ok (.iload_n 2, 1) := by decide +kernel
theorem dL_item_5 : decode cL_item 5 = .ok (.invokevirtual 26, 3) := by decide +kernel
theorem dL_item_8 : decode cL_item 8 = .ok (.i2l, 1) := by decide +kernel
theorem dL_item_9 : decode cL_item 9 = .ok (.lastore, 1) := by decide +kernel
theorem dL_item_10 : decode cL_item 10 = .ok (.goto 15, 3) := by decide +kernel
theorem dL_item_13 : decode cL_item 13 = .ok (.astore 4, 2) := by decide +kernel
theorem dL_item_15 : decode cL_item 15 = .ok (.iconst 1, 1) := by decide +kernel
theorem dL_item_16 : decode cL_item 16 = .ok (.ireturn, 1) := by decide +kernel
theorem dL_item_17 : decode cL_item 17 = .ok (.astore 4, 2) := by decide +kernel
theorem dL_item_19 : decode cL_item 19 = .ok (.iconst 2, 1) := by decide +kernel
theorem dL_item_20 : decode cL_item 20 = .ok (.ireturn, 1) := by decide +kernel
theorem dL_item_21 : decode cL_item 21 = .ok (.astore 4, 2) := by decide +kernel
theorem dL_item_23 : decode cL_item 23 = .ok (.iconst 3, 1) := by decide +kernel
theorem dL_item_24 : decode cL_item 24 = .ok (.ireturn, 1) := by decide +kernel
theorem dL_item_25 : decode cL_item 25 = .ok (.iconst 0, 1) := by decide +kernel
theorem dL_item_26 : decode cL_item 26 = .ok (.ireturn, 1) := by decide +kernel
theorem dL_cut_0 : decode cL_cut 0 = .ok (.aload_n 3, 1) := by decide +kernel
theorem dL_cut_1 : decode cL_cut 1 = .ok (.iconst 0, 1) := by decide +kernel
theorem dL_cut_2 : decode cL_cut 2 = .ok (.aload_n 0, 1) := by decide +kernel
theorem dL_cut_3 : decode cL_cut 3 = .ok (.iload_n 1, 1) := by decide +kernel
theorem dL_cut_4 : decode cL_cut 4 = .ok (.iload_n 2, 1) := by decide +kernel
theorem dL_cut_5 : decode cL_cut 5 = .ok (.invokevirtual 29, 3) := by decide +kernel
theorem dL_cut_8 : decode cL_cut 8 = .ok (.i2l, 1) := by decide +kernel
theorem dL_cut_9 : decode cL_cut 9 = .ok (.lastore, 1) := by decide +kernel
theorem dL_cut_10 : decode cL_cut 10 = .ok (.goto 11, 3) := by decide +kernel
theorem dL_cut_13 : decode cL_cut 13 = .ok (.astore 4, 2) := by decide +kernel
theorem dL_cut_15 : decode cL_cut 15 = .ok (.iconst 1, 1) := by decide +kernel
theorem dL_cut_16 : decode cL_cut 16 = .ok (.ireturn, 1) := by decide +kernel
theorem dL_cut_17 : decode cL_cut 17 = .ok (.astore 4, 2) := by decide +kernel
theorem dL_cut_19 : decode cL_cut 19 = .ok (.iconst 2, 1) := by decide +kernel
theorem dL_cut_20 : decode cL_cut 20 = .ok (.ireturn, 1) := by decide +kernel
theorem dL_cut_21 : decode cL_cut 21 = .ok (.iconst 0, 1) := by decide +kernel
theorem dL_cut_22 : decode cL_cut 22 = .ok (.ireturn, 1) := by decide +kernel
theorem dL_withdraw_0 : decode cL_withdraw 0 = .ok (.aload_n 0, 1) := by decide +kernel
theorem dL_withdraw_1 : decode cL_withdraw 1 = .ok (.iload_n 1, 1) := by decide +kernel
theorem dL_withdraw_2 : decode cL_withdraw 2 = .ok (.invokevirtual 32, 3) := by decide +kernel
theorem dL_withdraw_5 : decode cL_withdraw 5 = .ok (.goto 9, 3) := by decide +kernel
theorem dL_withdraw_8 : decode cL_withdraw 8 = .ok (.astore_n 2, 1) := by decide +kernel
theorem dL_withdraw_9 : decode cL_withdraw 9 = .ok (.iconst 1, 1) := by decide +kernel
theorem dL_withdraw_10 : decode cL_withdraw 10 = .ok (.ireturn, 1) := by decide +kernel
theorem dL_withdraw_11 : decode cL_withdraw 11 = .ok (.astore_n 2, 1) := by decide +kernel
theorem dL_withdraw_12 : decode cL_withdraw 12 = .ok (.iconst 2, 1) := by decide +kernel
theorem dL_withdraw_13 : decode cL_withdraw 13 = .ok (.ireturn, 1) := by decide +kernel
theorem dL_withdraw_14 : decode cL_withdraw 14 = .ok (.iconst 0, 1) := by decide +kernel
theorem dL_withdraw_15 : decode cL_withdraw 15 = .ok (.ireturn, 1) := by decide +kernel
theorem dL_songOut_0 : decode cL_songOut 0 = .ok (.aload_n 2, 1) := by decide +kernel
theorem dL_songOut_1 : decode cL_songOut 1 = .ok (.iconst 0, 1) := by decide +kernel
theorem dL_songOut_2 : decode cL_songOut 2 = .ok (.aload_n 0, 1) := by decide +kernel
theorem dL_songOut_3 : decode cL_songOut 3 = .ok (.iload_n 1, 1) := by decide +kernel
theorem dL_songOut_4 : decode cL_songOut 4 = .ok (.invokevirtual 36, 3) := by decide +kernel
theorem dL_songOut_7 : decode cL_songOut 7 = .ok (.i2l, 1) := by decide +kernel
theorem dL_songOut_8 : decode cL_songOut 8 = .ok (.lastore, 1) := by decide +kernel
theorem dL_songOut_9 : decode cL_songOut 9 = .ok (.goto 9, 3) := by decide +kernel
theorem dL_songOut_12 : decode cL_songOut 12 = .ok (.astore_n 3, 1) := by decide +kernel
theorem dL_songOut_13 : decode cL_songOut 13 = .ok (.iconst 1, 1) := by decide +kernel
theorem dL_songOut_14 : decode cL_songOut 14 = .ok (.ireturn, 1) := by decide +kernel
theorem dL_songOut_15 : decode cL_songOut 15 = .ok (.astore_n 3, 1) := by decide +kernel
theorem dL_songOut_16 : decode cL_songOut 16 = .ok (.iconst 2, 1) := by decide +kernel
theorem dL_songOut_17 : decode cL_songOut 17 = .ok (.ireturn, 1) := by decide +kernel
theorem dL_songOut_18 : decode cL_songOut 18 = .ok (.iconst 0, 1) := by decide +kernel
theorem dL_songOut_19 : decode cL_songOut 19 = .ok (.ireturn, 1) := by decide +kernel
theorem dL_pass_0 : decode cL_pass 0 = .ok (.aload_n 2, 1) := by decide +kernel
theorem dL_pass_1 : decode cL_pass 1 = .ok (.iconst 0, 1) := by decide +kernel
theorem dL_pass_2 : decode cL_pass 2 = .ok (.aload_n 0, 1) := by decide +kernel
theorem dL_pass_3 : decode cL_pass 3 = .ok (.iload_n 1, 1) := by decide +kernel
theorem dL_pass_4 : decode cL_pass 4 = .ok (.invokevirtual 39, 3) := by decide +kernel
theorem dL_pass_7 : decode cL_pass 7 = .ok (.i2l, 1) := by decide +kernel
theorem dL_pass_8 : decode cL_pass 8 = .ok (.lastore, 1) := by decide +kernel
theorem dL_pass_9 : decode cL_pass 9 = .ok (.goto 9, 3) := by decide +kernel
theorem dL_pass_12 : decode cL_pass 12 = .ok (.astore_n 3, 1) := by decide +kernel
theorem dL_pass_13 : decode cL_pass 13 = .ok (.iconst 1, 1) := by decide +kernel
theorem dL_pass_14 : decode cL_pass 14 = .ok (.ireturn, 1) := by decide +kernel
theorem dL_pass_15 : decode cL_pass 15 = .ok (.astore_n 3, 1) := by decide +kernel
theorem dL_pass_16 : decode cL_pass 16 = .ok (.iconst 2, 1) := by decide +kernel
theorem dL_pass_17 : decode cL_pass 17 = .ok (.ireturn, 1) := by decide +kernel
theorem dL_pass_18 : decode cL_pass 18 = .ok (.iconst 0, 1) := by decide +kernel
theorem dL_pass_19 : decode cL_pass 19 = .ok (.ireturn, 1) := by decide +kernel
theorem dL_app_0 : decode cL_app 0 = .ok (.aload_n 2, 1) := by decide +kernel
theorem dL_app_1 : decode cL_app 1 = .ok (.iconst 0, 1) := by decide +kernel
theorem dL_app_2 : decode cL_app 2 = .ok (.aload_n 0, 1) := by decide +kernel
theorem dL_app_3 : decode cL_app 3 = .ok (.iload_n 1, 1) := by decide +kernel
theorem dL_app_4 : decode cL_app 4 = .ok (.invokevirtual 42, 3) := by decide +kernel
theorem dL_app_7 : decode cL_app 7 = .ok (.i2l, 1) := by decide +kernel
theorem dL_app_8 : decode cL_app 8 = .ok (.lastore, 1) := by decide +kernel
theorem dL_app_9 : decode cL_app 9 = .ok (.goto 9, 3) := by decide +kernel
theorem dL_app_12 : decode cL_app 12 = .ok (.astore_n 3, 1) := by decide +kernel
theorem dL_app_13 : decode cL_app 13 = .ok (.iconst 1, 1) := by decide +kernel
theorem dL_app_14 : decode cL_app 14 = .ok (.ireturn, 1) := by decide +kernel
theorem dL_app_15 : decode cL_app 15 = .ok (.astore_n 3, 1) := by decide +kernel
theorem dL_app_16 : decode cL_app 16 = .ok (.iconst 2, 1) := by decide +kernel
theorem dL_app_17 : decode cL_app 17 = .ok (.ireturn, 1) := by decide +kernel
theorem dL_app_18 : decode cL_app 18 = .ok (.iconst 0, 1) := by decide +kernel
theorem dL_app_19 : decode cL_app 19 = .ok (.ireturn, 1) := by decide +kernel
theorem dL_poll_0 : decode cL_poll 0 = .ok (.aload_n 2, 1) := by decide +kernel
theorem dL_poll_1 : decode cL_poll 1 = .ok (.iconst 0, 1) := by decide +kernel
theorem dL_poll_2 : decode cL_poll 2 = .ok (.aload_n 0, 1) := by decide +kernel
theorem dL_poll_3 : decode cL_poll 3 = .ok (.iload_n 1, 1) := by decide +kernel
theorem dL_poll_4 : decode cL_poll 4 = .ok (.invokevirtual 45, 3) := by decide +kernel
theorem dL_poll_7 : decode cL_poll 7 = .ok (.i2l, 1) := by decide +kernel
theorem dL_poll_8 : decode cL_poll 8 = .ok (.lastore, 1) := by decide +kernel
theorem dL_poll_9 : decode cL_poll 9 = .ok (.goto 6, 3) := by decide +kernel
theorem dL_poll_12 : decode cL_poll 12 = .ok (.astore_n 3, 1) := by decide +kernel
theorem dL_poll_13 : decode cL_poll 13 = .ok (.iconst 1, 1) := by decide +kernel
theorem dL_poll_14 : decode cL_poll 14 = .ok (.ireturn, 1) := by decide +kernel
theorem dL_poll_15 : decode cL_poll 15 = .ok (.iconst 0, 1) := by decide +kernel
theorem dL_poll_16 : decode cL_poll 16 = .ok (.ireturn, 1) := by decide +kernel
theorem dL_campaign_0 : decode cL_campaign 0 = .ok (.aload 8, 2) := by decide +kernel
theorem dL_campaign_2 : decode cL_campaign 2 = .ok (.iconst 0, 1) := by decide +kernel
theorem dL_campaign_3 : decode cL_campaign 3 = .ok (.aload_n 0, 1) := by decide +kernel
theorem dL_campaign_4 : decode cL_campaign 4 = .ok (.iload_n 1, 1) := by decide +kernel
theorem dL_campaign_5 : decode cL_campaign 5 = .ok (.iload_n 2, 1) := by decide +kernel
theorem dL_campaign_6 : decode cL_campaign 6 = .ok (.iload_n 3, 1) := by decide +kernel
theorem dL_campaign_7 : decode cL_campaign 7 = .ok (.iload 4, 2) := by decide +kernel
theorem dL_campaign_9 : decode cL_campaign 9 = .ok (.iload 5, 2) := by decide +kernel
theorem dL_campaign_11 : decode cL_campaign 11 = .ok (.iload 6, 2) := by decide +kernel
theorem dL_campaign_13 : decode cL_campaign 13 = .ok (.iload 7, 2) := by decide +kernel
theorem dL_campaign_15 : decode cL_campaign 15 = .ok (.invokevirtual 48, 3) := by decide +kernel
theorem dL_campaign_18 : decode cL_campaign 18 = .ok (.i2l, 1) := by decide +kernel
theorem dL_campaign_19 : decode cL_campaign 19 = .ok (.lastore, 1) := by decide +kernel
theorem dL_campaign_20 : decode cL_campaign 20 = .ok (.goto 11, 3) := by decide +kernel
theorem dL_campaign_23 : decode cL_campaign 23 = .ok (.astore 9, 2) := by decide +kernel
theorem dL_campaign_25 : decode cL_campaign 25 = .ok (.iconst 1, 1) := by decide +kernel
theorem dL_campaign_26 : decode cL_campaign 26 = .ok (.ireturn, 1) := by decide +kernel
theorem dL_campaign_27 : decode cL_campaign 27 = .ok (.astore 9, 2) := by decide +kernel
theorem dL_campaign_29 : decode cL_campaign 29 = .ok (.iconst 2, 1) := by decide +kernel
theorem dL_campaign_30 : decode cL_campaign 30 = .ok (.ireturn, 1) := by decide +kernel
theorem dL_campaign_31 : decode cL_campaign 31 = .ok (.iconst 0, 1) := by decide +kernel
theorem dL_campaign_32 : decode cL_campaign 32 = .ok (.ireturn, 1) := by decide +kernel
theorem dL_ask_0 : decode cL_ask 0 = .ok (.aload_n 3, 1) := by decide +kernel
theorem dL_ask_1 : decode cL_ask 1 = .ok (.iconst 0, 1) := by decide +kernel
theorem dL_ask_2 : decode cL_ask 2 = .ok (.aload_n 0, 1) := by decide +kernel
theorem dL_ask_3 : decode cL_ask 3 = .ok (.iload_n 1, 1) := by decide +kernel
theorem dL_ask_4 : decode cL_ask 4 = .ok (.iload_n 2, 1) := by decide +kernel
theorem dL_ask_5 : decode cL_ask 5 = .ok (.invokevirtual 52, 3) := by decide +kernel
theorem dL_ask_8 : decode cL_ask 8 = .ok (.i2l, 1) := by decide +kernel
theorem dL_ask_9 : decode cL_ask 9 = .ok (.lastore, 1) := by decide +kernel
theorem dL_ask_10 : decode cL_ask 10 = .ok (.goto 11, 3) := by decide +kernel
theorem dL_ask_13 : decode cL_ask 13 = .ok (.astore 4, 2) := by decide +kernel
theorem dL_ask_15 : decode cL_ask 15 = .ok (.iconst 1, 1) := by decide +kernel
theorem dL_ask_16 : decode cL_ask 16 = .ok (.ireturn, 1) := by decide +kernel
theorem dL_ask_17 : decode cL_ask 17 = .ok (.astore 4, 2) := by decide +kernel
theorem dL_ask_19 : decode cL_ask 19 = .ok (.iconst 2, 1) := by decide +kernel
theorem dL_ask_20 : decode cL_ask 20 = .ok (.ireturn, 1) := by decide +kernel
theorem dL_ask_21 : decode cL_ask 21 = .ok (.iconst 0, 1) := by decide +kernel
theorem dL_ask_22 : decode cL_ask 22 = .ok (.ireturn, 1) := by decide +kernel
theorem dL_load_0 : decode cL_load 0 = .ok (.aload 4, 2) := by decide +kernel
theorem dL_load_2 : decode cL_load 2 = .ok (.iconst 0, 1) := by decide +kernel
theorem dL_load_3 : decode cL_load 3 = .ok (.aload_n 0, 1) := by decide +kernel
theorem dL_load_4 : decode cL_load 4 = .ok (.iload_n 1, 1) := by decide +kernel
theorem dL_load_5 : decode cL_load 5 = .ok (.iload_n 2, 1) := by decide +kernel
theorem dL_load_6 : decode cL_load 6 = .ok (.iload_n 3, 1) := by decide +kernel
theorem dL_load_7 : decode cL_load 7 = .ok (.invokevirtual 55, 3) := by decide +kernel
theorem dL_load_10 : decode cL_load 10 = .ok (.i2l, 1) := by decide +kernel
theorem dL_load_11 : decode cL_load 11 = .ok (.lastore, 1) := by decide +kernel
theorem dL_load_12 : decode cL_load 12 = .ok (.goto 15, 3) := by decide +kernel
theorem dL_load_15 : decode cL_load 15 = .ok (.astore 5, 2) := by decide +kernel
theorem dL_load_17 : decode cL_load 17 = .ok (.iconst 1, 1) := by decide +kernel
theorem dL_load_18 : decode cL_load 18 = .ok (.ireturn, 1) := by decide +kernel
theorem dL_load_19 : decode cL_load 19 = .ok (.astore 5, 2) := by decide +kernel
theorem dL_load_21 : decode cL_load 21 = .ok (.iconst 2, 1) := by decide +kernel
theorem dL_load_22 : decode cL_load 22 = .ok (.ireturn, 1) := by decide +kernel
theorem dL_load_23 : decode cL_load 23 = .ok (.astore 5, 2) := by decide +kernel
theorem dL_load_25 : decode cL_load 25 = .ok (.iconst 3, 1) := by decide +kernel
theorem dL_load_26 : decode cL_load 26 = .ok (.ireturn, 1) := by decide +kernel
theorem dL_load_27 : decode cL_load 27 = .ok (.iconst 0, 1) := by decide +kernel
theorem dL_load_28 : decode cL_load 28 = .ok (.ireturn, 1) := by decide +kernel
theorem dL_bot_0 : decode cL_bot 0 = .ok (.aload_n 3, 1) := by decide +kernel
theorem dL_bot_1 : decode cL_bot 1 = .ok (.iconst 0, 1) := by decide +kernel
theorem dL_bot_2 : decode cL_bot 2 = .ok (.aload_n 0, 1) := by decide +kernel
theorem dL_bot_3 : decode cL_bot 3 = .ok (.iload_n 1, 1) := by decide +kernel
theorem dL_bot_4 : decode cL_bot 4 = .ok (.iload_n 2, 1) := by decide +kernel
theorem dL_bot_5 : decode cL_bot 5 = .ok (.invokevirtual 59, 3) := by decide +kernel
theorem dL_bot_8 : decode cL_bot 8 = .ok (.ifCond .eq 7, 3) := by decide +kernel
theorem dL_bot_11 : decode cL_bot 11 = .ok (.lconst 1, 1) := by decide +kernel
theorem dL_bot_12 : decode cL_bot 12 = .ok (.goto 4, 3) := by decide +kernel
theorem dL_bot_15 : decode cL_bot 15 = .ok (.lconst 0, 1) := by decide +kernel
theorem dL_bot_16 : decode cL_bot 16 = .ok (.lastore, 1) := by decide +kernel
theorem dL_bot_17 : decode cL_bot 17 = .ok (.goto 7, 3) := by decide +kernel
theorem dL_bot_20 : decode cL_bot 20 = .ok (.astore 4, 2) := by decide +kernel
theorem dL_bot_22 : decode cL_bot 22 = .ok (.iconst 1, 1) := by decide +kernel
theorem dL_bot_23 : decode cL_bot 23 = .ok (.ireturn, 1) := by decide +kernel
theorem dL_bot_24 : decode cL_bot 24 = .ok (.iconst 0, 1) := by decide +kernel
theorem dL_bot_25 : decode cL_bot 25 = .ok (.ireturn, 1) := by decide +kernel
theorem dL_tell_0 : decode cL_tell 0 = .ok (.aload_n 3, 1) := by decide +kernel
theorem dL_tell_1 : decode cL_tell 1 = .ok (.iconst 0, 1) := by decide +kernel
theorem dL_tell_2 : decode cL_tell 2 = .ok (.aload_n 0, 1) := by decide +kernel
theorem dL_tell_3 : decode cL_tell 3 = .ok (.iload_n 1, 1) := by decide +kernel
theorem dL_tell_4 : decode cL_tell 4 = .ok (.iload_n 2, 1) := by decide +kernel
theorem dL_tell_5 : decode cL_tell 5 = .ok (.invokevirtual 63, 3) := by decide +kernel
theorem dL_tell_8 : decode cL_tell 8 = .ok (.ifCond .eq 7, 3) := by decide +kernel
theorem dL_tell_11 : decode cL_tell 11 = .ok (.lconst 1, 1) := by decide +kernel
theorem dL_tell_12 : decode cL_tell 12 = .ok (.goto 4, 3) := by decide +kernel
theorem dL_tell_15 : decode cL_tell 15 = .ok (.lconst 0, 1) := by decide +kernel
theorem dL_tell_16 : decode cL_tell 16 = .ok (.lastore, 1) := by decide +kernel
theorem dL_tell_17 : decode cL_tell 17 = .ok (.goto 7, 3) := by decide +kernel
theorem dL_tell_20 : decode cL_tell 20 = .ok (.astore 4, 2) := by decide +kernel
theorem dL_tell_22 : decode cL_tell 22 = .ok (.iconst 1, 1) := by decide +kernel
theorem dL_tell_23 : decode cL_tell 23 = .ok (.ireturn, 1) := by decide +kernel
theorem dL_tell_24 : decode cL_tell 24 = .ok (.iconst 0, 1) := by decide +kernel
theorem dL_tell_25 : decode cL_tell 25 = .ok (.ireturn, 1) := by decide +kernel
theorem dL_ofItem_0 : decode cL_ofItem 0 = .ok (.aload_n 3, 1) := by decide +kernel
theorem dL_ofItem_1 : decode cL_ofItem 1 = .ok (.iconst 0, 1) := by decide +kernel
theorem dL_ofItem_2 : decode cL_ofItem 2 = .ok (.aload_n 0, 1) := by decide +kernel
theorem dL_ofItem_3 : decode cL_ofItem 3 = .ok (.iload_n 1, 1) := by decide +kernel
theorem dL_ofItem_4 : decode cL_ofItem 4 = .ok (.iload_n 2, 1) := by decide +kernel
theorem dL_ofItem_5 : decode cL_ofItem 5 = .ok (.invokevirtual 67, 3) := by decide +kernel
theorem dL_ofItem_8 : decode cL_ofItem 8 = .ok (.i2l, 1) := by decide +kernel
theorem dL_ofItem_9 : decode cL_ofItem 9 = .ok (.lastore, 1) := by decide +kernel
theorem dL_ofItem_10 : decode cL_ofItem 10 = .ok (.goto 11, 3) := by decide +kernel
theorem dL_ofItem_13 : decode cL_ofItem 13 = .ok (.astore 4, 2) := by decide +kernel
theorem dL_ofItem_15 : decode cL_ofItem 15 = .ok (.iconst 1, 1) := by decide +kernel
theorem dL_ofItem_16 : decode cL_ofItem 16 = .ok (.ireturn, 1) := by decide +kernel
theorem dL_ofItem_17 : decode cL_ofItem 17 = .ok (.astore 4, 2) := by decide +kernel
theorem dL_ofItem_19 : decode cL_ofItem 19 = .ok (.iconst 2, 1) := by decide +kernel
theorem dL_ofItem_20 : decode cL_ofItem 20 = .ok (.ireturn, 1) := by decide +kernel
theorem dL_ofItem_21 : decode cL_ofItem 21 = .ok (.iconst 0, 1) := by decide +kernel
theorem dL_ofItem_22 : decode cL_ofItem 22 = .ok (.ireturn, 1) := by decide +kernel
theorem dL_ofPart_0 : decode cL_ofPart 0 = .ok (.aload 4, 2) := by decide +kernel
theorem dL_ofPart_2 : decode cL_ofPart 2 = .ok (.iconst 0, 1) := by decide +kernel
theorem dL_ofPart_3 : decode cL_ofPart 3 = .ok (.aload_n 0, 1) := by decide +kernel
theorem dL_ofPart_4 : decode cL_ofPart 4 = .ok (.iload_n 1, 1) := by decide +kernel
theorem dL_ofPart_5 : decode cL_ofPart 5 = .ok (.iload_n 2, 1) := by decide +kernel
theorem dL_ofPart_6 : decode cL_ofPart 6 = .ok (.iload_n 3, 1) := by decide +kernel
theorem dL_ofPart_7 : decode cL_ofPart 7 = .ok (.invokevirtual 70, 3) := by decide +kernel
theorem dL_ofPart_10 : decode cL_ofPart 10 = .ok (.i2l, 1) := by decide +kernel
theorem dL_ofPart_11 : decode cL_ofPart 11 = .ok (.lastore, 1) := by decide +kernel
theorem dL_ofPart_12 : decode cL_ofPart 12 = .ok (.goto 11, 3) := by decide +kernel
theorem dL_ofPart_15 : decode cL_ofPart 15 = .ok (.astore 5, 2) := by decide +kernel
theorem dL_ofPart_17 : decode cL_ofPart 17 = .ok (.iconst 1, 1) := by decide +kernel
theorem dL_ofPart_18 : decode cL_ofPart 18 = .ok (.ireturn, 1) := by decide +kernel
theorem dL_ofPart_19 : decode cL_ofPart 19 = .ok (.astore 5, 2) := by decide +kernel
theorem dL_ofPart_21 : decode cL_ofPart 21 = .ok (.iconst 2, 1) := by decide +kernel
theorem dL_ofPart_22 : decode cL_ofPart 22 = .ok (.ireturn, 1) := by decide +kernel
theorem dL_ofPart_23 : decode cL_ofPart 23 = .ok (.iconst 0, 1) := by decide +kernel
theorem dL_ofPart_24 : decode cL_ofPart 24 = .ok (.ireturn, 1) := by decide +kernel
theorem dL_told_0 : decode cL_told 0 = .ok (.aload_n 3, 1) := by decide +kernel
theorem dL_told_1 : decode cL_told 1 = .ok (.iconst 0, 1) := by decide +kernel
theorem dL_told_2 : decode cL_told 2 = .ok (.aload_n 0, 1) := by decide +kernel
theorem dL_told_3 : decode cL_told 3 = .ok (.iload_n 1, 1) := by decide +kernel
theorem dL_told_4 : decode cL_told 4 = .ok (.iload_n 2, 1) := by decide +kernel
theorem dL_told_5 : decode cL_told 5 = .ok (.invokevirtual 73, 3) := by decide +kernel
theorem dL_told_8 : decode cL_told 8 = .ok (.i2l, 1) := by decide +kernel
theorem dL_told_9 : decode cL_told 9 = .ok (.lastore, 1) := by decide +kernel
theorem dL_told_10 : decode cL_told 10 = .ok (.goto 7, 3) := by decide +kernel
theorem dL_told_13 : decode cL_told 13 = .ok (.astore 4, 2) := by decide +kernel
theorem dL_told_15 : decode cL_told 15 = .ok (.iconst 1, 1) := by decide +kernel
theorem dL_told_16 : decode cL_told 16 = .ok (.ireturn, 1) := by decide +kernel
theorem dL_told_17 : decode cL_told 17 = .ok (.iconst 0, 1) := by decide +kernel
theorem dL_told_18 : decode cL_told 18 = .ok (.ireturn, 1) := by decide +kernel
theorem dL_ofCampaign_0 : decode cL_ofCampaign 0 = .ok (.aload_n 3, 1) := by decide +kernel
theorem dL_ofCampaign_1 : decode cL_ofCampaign 1 = .ok (.iconst 0, 1) := by decide +kernel
theorem dL_ofCampaign_2 : decode cL_ofCampaign 2 = .ok (.aload_n 0, 1) := by decide +kernel
theorem dL_ofCampaign_3 : decode cL_ofCampaign 3 = .ok (.iload_n 1, 1) := by decide +kernel
theorem dL_ofCampaign_4 : decode cL_ofCampaign 4 = .ok (.iload_n 2, 1) := by decide +kernel
theorem dL_ofCampaign_5 : decode cL_ofCampaign 5 = .ok (.invokevirtual 76, 3) := by decide +kernel
theorem dL_ofCampaign_8 : decode cL_ofCampaign 8 = .ok (.i2l, 1) := by decide +kernel
theorem dL_ofCampaign_9 : decode cL_ofCampaign 9 = .ok (.lastore, 1) := by decide +kernel
theorem dL_ofCampaign_10 : decode cL_ofCampaign 10 = .ok (.goto 11, 3) := by decide +kernel
theorem dL_ofCampaign_13 : decode cL_ofCampaign 13 = .ok (.astore 4, 2) := by decide +kernel
theorem dL_ofCampaign_15 : decode cL_ofCampaign 15 = .ok (.iconst 1, 1) := by decide +kernel
theorem dL_ofCampaign_16 : decode cL_ofCampaign 16 = .ok (.ireturn, 1) := by decide +kernel
theorem dL_ofCampaign_17 : decode cL_ofCampaign 17 = .ok (.astore 4, 2) := by decide +kernel
theorem dL_ofCampaign_19 : decode cL_ofCampaign 19 = .ok (.iconst 2, 1) := by decide +kernel
theorem dL_ofCampaign_20 : decode cL_ofCampaign 20 = .ok (.ireturn, 1) := by decide +kernel
theorem dL_ofCampaign_21 : decode cL_ofCampaign 21 = .ok (.iconst 0, 1) := by decide +kernel
theorem dL_ofCampaign_22 : decode cL_ofCampaign 22 = .ok (.ireturn, 1) := by decide +kernel
theorem dL_ofDownload_0 : decode cL_ofDownload 0 = .ok (.aload_n 3, 1) := by decide +kernel
theorem dL_ofDownload_1 : decode cL_ofDownload 1 = .ok (.iconst 0, 1) := by decide +kernel
theorem dL_ofDownload_2 : decode cL_ofDownload 2 = .ok (.aload_n 0, 1) := by decide +kernel
theorem dL_ofDownload_3 : decode cL_ofDownload 3 = .ok (.iload_n 1, 1) := by decide +kernel
theorem dL_ofDownload_4 : decode cL_ofDownload 4 = .ok (.iload_n 2, 1) := by decide +kernel
theorem dL_ofDownload_5 : decode cL_ofDownload 5 = .ok (.invokevirtual 79, 3) := by decide +kernel
theorem dL_ofDownload_8 : decode cL_ofDownload 8 = .ok (.i2l, 1) := by decide +kernel
theorem dL_ofDownload_9 : decode cL_ofDownload 9 = .ok (.lastore, 1) := by decide +kernel
theorem dL_ofDownload_10 : decode cL_ofDownload 10 = .ok (.goto 11, 3) := by decide +kernel
theorem dL_ofDownload_13 : decode cL_ofDownload 13 = .ok (.astore 4, 2) := by decide +kernel
theorem dL_ofDownload_15 : decode cL_ofDownload 15 = .ok (.iconst 1, 1) := by decide +kernel
theorem dL_ofDownload_16 : decode cL_ofDownload 16 = .ok (.ireturn, 1) := by decide +kernel
theorem dL_ofDownload_17 : decode cL_ofDownload 17 = .ok (.astore 4, 2) := by decide +kernel
theorem dL_ofDownload_19 : decode cL_ofDownload 19 = .ok (.iconst 2, 1) := by decide +kernel
theorem dL_ofDownload_20 : decode cL_ofDownload 20 = .ok (.ireturn, 1) := by decide +kernel
theorem dL_ofDownload_21 : decode cL_ofDownload 21 = .ok (.iconst 0, 1) := by decide +kernel
theorem dL_ofDownload_22 : decode cL_ofDownload 22 = .ok (.ireturn, 1) := by decide +kernel
theorem dL_ad_0 : decode cL_ad 0 = .ok (.aload_n 3, 1) := by decide +kernel
theorem dL_ad_1 : decode cL_ad 1 = .ok (.iconst 0, 1) := by decide +kernel
theorem dL_ad_2 : decode cL_ad 2 = .ok (.aload_n 0, 1) := by decide +kernel
theorem dL_ad_3 : decode cL_ad 3 = .ok (.iload_n 1, 1) := by decide +kernel
theorem dL_ad_4 : decode cL_ad 4 = .ok (.iload_n 2, 1) := by decide +kernel
theorem dL_ad_5 : decode cL_ad 5 = .ok (.invokevirtual 82, 3) := by decide +kernel
theorem dL_ad_8 : decode cL_ad 8 = .ok (.i2l, 1) := by decide +kernel
theorem dL_ad_9 : decode cL_ad 9 = .ok (.lastore, 1) := by decide +kernel
theorem dL_ad_10 : decode cL_ad 10 = .ok (.goto 7, 3) := by decide +kernel
theorem dL_ad_13 : decode cL_ad 13 = .ok (.astore 4, 2) := by decide +kernel
theorem dL_ad_15 : decode cL_ad 15 = .ok (.iconst 1, 1) := by decide +kernel
theorem dL_ad_16 : decode cL_ad 16 = .ok (.ireturn, 1) := by decide +kernel
theorem dL_ad_17 : decode cL_ad 17 = .ok (.iconst 0, 1) := by decide +kernel
theorem dL_ad_18 : decode cL_ad 18 = .ok (.ireturn, 1) := by decide +kernel
theorem dL_loadedAnew_0 : decode cL_loadedAnew 0 = .ok (.aload_n 2, 1) := by decide +kernel
theorem dL_loadedAnew_1 : decode cL_loadedAnew 1 = .ok (.iconst 0, 1) := by decide +kernel
theorem dL_loadedAnew_2 : decode cL_loadedAnew 2 = .ok (.aload_n 0, 1) := by decide +kernel
theorem dL_loadedAnew_3 : decode cL_loadedAnew 3 = .ok (.iload_n 1, 1) := by decide +kernel
theorem dL_loadedAnew_4 : decode cL_loadedAnew 4 = .ok (.invokevirtual 85, 3) := by decide +kernel
theorem dL_loadedAnew_7 : decode cL_loadedAnew 7 = .ok (.i2l, 1) := by decide +kernel
theorem dL_loadedAnew_8 : decode cL_loadedAnew 8 = .ok (.lastore, 1) := by decide +kernel
theorem dL_loadedAnew_9 : decode cL_loadedAnew 9 = .ok (.goto 6, 3) := by decide +kernel
theorem dL_loadedAnew_12 : decode cL_loadedAnew 12 = .ok (.astore_n 3, 1) := by decide +kernel
theorem dL_loadedAnew_13 : decode cL_loadedAnew 13 = .ok (.iconst 1, 1) := by decide +kernel
theorem dL_loadedAnew_14 : decode cL_loadedAnew 14 = .ok (.ireturn, 1) := by decide +kernel
theorem dL_loadedAnew_15 : decode cL_loadedAnew 15 = .ok (.iconst 0, 1) := by decide +kernel
theorem dL_loadedAnew_16 : decode cL_loadedAnew 16 = .ok (.ireturn, 1) := by decide +kernel
theorem dL_counts_0 : decode cL_counts 0 = .ok (.aload_n 3, 1) := by decide +kernel
theorem dL_counts_1 : decode cL_counts 1 = .ok (.iconst 0, 1) := by decide +kernel
theorem dL_counts_2 : decode cL_counts 2 = .ok (.aload_n 0, 1) := by decide +kernel
theorem dL_counts_3 : decode cL_counts 3 = .ok (.iload_n 1, 1) := by decide +kernel
theorem dL_counts_4 : decode cL_counts 4 = .ok (.iload_n 2, 1) := by decide +kernel
theorem dL_counts_5 : decode cL_counts 5 = .ok (.invokevirtual 88, 3) := by decide +kernel
theorem dL_counts_8 : decode cL_counts 8 = .ok (.ifCond .eq 7, 3) := by decide +kernel
theorem dL_counts_11 : decode cL_counts 11 = .ok (.lconst 1, 1) := by decide +kernel
theorem dL_counts_12 : decode cL_counts 12 = .ok (.goto 4, 3) := by decide +kernel
theorem dL_counts_15 : decode cL_counts 15 = .ok (.lconst 0, 1) := by decide +kernel
theorem dL_counts_16 : decode cL_counts 16 = .ok (.lastore, 1) := by decide +kernel
theorem dL_counts_17 : decode cL_counts 17 = .ok (.goto 11, 3) := by decide +kernel
theorem dL_counts_20 : decode cL_counts 20 = .ok (.astore 4, 2) := by decide +kernel
theorem dL_counts_22 : decode cL_counts 22 = .ok (.iconst 1, 1) := by decide +kernel
theorem dL_counts_23 : decode cL_counts 23 = .ok (.ireturn, 1) := by decide +kernel
theorem dL_counts_24 : decode cL_counts 24 = .ok (.astore 4, 2) := by decide +kernel
theorem dL_counts_26 : decode cL_counts 26 = .ok (.iconst 2, 1) := by decide +kernel
theorem dL_counts_27 : decode cL_counts 27 = .ok (.ireturn, 1) := by decide +kernel
theorem dL_counts_28 : decode cL_counts 28 = .ok (.iconst 0, 1) := by decide +kernel
theorem dL_counts_29 : decode cL_counts 29 = .ok (.ireturn, 1) := by decide +kernel
theorem dL_count_0 : decode cL_count 0 = .ok (.aload_n 3, 1) := by decide +kernel
theorem dL_count_1 : decode cL_count 1 = .ok (.iconst 0, 1) := by decide +kernel
theorem dL_count_2 : decode cL_count 2 = .ok (.aload_n 0, 1) := by decide +kernel
theorem dL_count_3 : decode cL_count 3 = .ok (.iload_n 1, 1) := by decide +kernel
theorem dL_count_4 : decode cL_count 4 = .ok (.iload_n 2, 1) := by decide +kernel
theorem dL_count_5 : decode cL_count 5 = .ok (.invokevirtual 91, 3) := by decide +kernel
theorem dL_count_8 : decode cL_count 8 = .ok (.i2l, 1) := by decide +kernel
theorem dL_count_9 : decode cL_count 9 = .ok (.lastore, 1) := by decide +kernel
theorem dL_count_10 : decode cL_count 10 = .ok (.goto 11, 3) := by decide +kernel
theorem dL_count_13 : decode cL_count 13 = .ok (.astore 4, 2) := by decide +kernel
theorem dL_count_15 : decode cL_count 15 = .ok (.iconst 1, 1) := by decide +kernel
theorem dL_count_16 : decode cL_count 16 = .ok (.ireturn, 1) := by decide +kernel
theorem dL_count_17 : decode cL_count 17 = .ok (.astore 4, 2) := by decide +kernel
theorem dL_count_19 : decode cL_count 19 = .ok (.iconst 2, 1) := by decide +kernel
theorem dL_count_20 : decode cL_count 20 = .ok (.ireturn, 1) := by decide +kernel
theorem dL_count_21 : decode cL_count 21 = .ok (.iconst 0, 1) := by decide +kernel
theorem dL_count_22 : decode cL_count 22 = .ok (.ireturn, 1) := by decide +kernel
theorem dL_isOwed_0 : decode cL_isOwed 0 = .ok (.aload_n 3, 1) := by decide +kernel
theorem dL_isOwed_1 : decode cL_isOwed 1 = .ok (.iconst 0, 1) := by decide +kernel
theorem dL_isOwed_2 : decode cL_isOwed 2 = .ok (.aload_n 0, 1) := by decide +kernel
theorem dL_isOwed_3 : decode cL_isOwed 3 = .ok (.iload_n 1, 1) := by decide +kernel
theorem dL_isOwed_4 : decode cL_isOwed 4 = .ok (.iload_n 2, 1) := by decide +kernel
theorem dL_isOwed_5 : decode cL_isOwed 5 = .ok (.invokevirtual 94, 3) := by decide +kernel
theorem dL_isOwed_8 : decode cL_isOwed 8 = .ok (.ifCond .eq 7, 3) := by decide +kernel
theorem dL_isOwed_11 : decode cL_isOwed 11 = .ok (.lconst 1, 1) := by decide +kernel
theorem dL_isOwed_12 : decode cL_isOwed 12 = .ok (.goto 4, 3) := by decide +kernel
theorem dL_isOwed_15 : decode cL_isOwed 15 = .ok (.lconst 0, 1) := by decide +kernel
theorem dL_isOwed_16 : decode cL_isOwed 16 = .ok (.lastore, 1) := by decide +kernel
theorem dL_isOwed_17 : decode cL_isOwed 17 = .ok (.goto 7, 3) := by decide +kernel
theorem dL_isOwed_20 : decode cL_isOwed 20 = .ok (.astore 4, 2) := by decide +kernel
theorem dL_isOwed_22 : decode cL_isOwed 22 = .ok (.iconst 1, 1) := by decide +kernel
theorem dL_isOwed_23 : decode cL_isOwed 23 = .ok (.ireturn, 1) := by decide +kernel
theorem dL_isOwed_24 : decode cL_isOwed 24 = .ok (.iconst 0, 1) := by decide +kernel
theorem dL_isOwed_25 : decode cL_isOwed 25 = .ok (.ireturn, 1) := by decide +kernel
