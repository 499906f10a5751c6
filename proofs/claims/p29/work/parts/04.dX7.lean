theorem dX7_init_0 : decode cX7_init 0 = .ok (.aload_n 0, 1) := by decide +kernel
theorem dX7_init_1 : decode cX7_init 1 = .ok (.invokespecial 1, 3) := by decide +kernel
theorem dX7_init_4 : decode cX7_init 4 = .ok (.aload_n 0, 1) := by decide +kernel
theorem dX7_init_5 : decode cX7_init 5 = .ok (.new 7, 3) := by decide +kernel
theorem dX7_init_8 : decode cX7_init 8 = .ok (.dup, 1) := by decide +kernel
theorem dX7_init_9 : decode cX7_init 9 = .ok (.invokespecial 9, 3) := by decide +kernel
theorem dX7_init_12 : decode cX7_init 12 = .ok (.putfield 10, 3) := by decide +kernel
theorem dX7_init_15 : decode cX7_init 15 = .ok (.aload_n 0, 1) := by decide +kernel
theorem dX7_init_16 : decode cX7_init 16 = .ok (.new 7, 3) := by decide +kernel
theorem dX7_init_19 : decode cX7_init 19 = .ok (.dup, 1) := by decide +kernel
theorem dX7_init_20 : decode cX7_init 20 = .ok (.invokespecial 9, 3) := by decide +kernel
theorem dX7_init_23 : decode cX7_init 23 = .ok (.putfield 16, 3) := by decide +kernel
theorem dX7_init_26 : decode cX7_init 26 = .ok (.aload_n 0, 1) := by decide +kernel
theorem dX7_init_27 : decode cX7_init 27 = .ok (.new 7, 3) := by decide +kernel
theorem dX7_init_30 : decode cX7_init 30 = .ok (.dup, 1) := by decide +kernel
theorem dX7_init_31 : decode cX7_init 31 = .ok (.invokespecial 9, 3) := by decide +kernel
theorem dX7_init_34 : decode cX7_init 34 = .ok (.putfield 19, 3) := by decide +kernel
theorem dX7_init_37 : decode cX7_init 37 = .ok (.aload_n 0, 1) := by decide +kernel
theorem dX7_init_38 : decode cX7_init 38 = .ok (.new 7, 3) := by decide +kernel
theorem dX7_init_41 : decode cX7_init 41 = .ok (.dup, 1) := by decide +kernel
theorem dX7_init_42 : decode cX7_init 42 = .ok (.invokespecial 9, 3) := by decide +kernel
theorem dX7_init_45 : decode cX7_init 45 = .ok (.putfield 22, 3) := by decide +kernel
theorem dX7_init_48 : decode cX7_init 48 = .ok (.aload_n 0, 1) := by decide +kernel
theorem dX7_init_49 : decode cX7_init 49 = .ok (.new 7, 3) := by decide +kernel
theorem dX7_init_52 : decode cX7_init 52 = .ok (.dup, 1) := by decide +kernel
theorem dX7_init_53 : decode cX7_init 53 = .ok (.invokespecial 9, 3) := by decide +kernel
theorem dX7_init_56 : decode cX7_init 56 = .ok (.putfield 25, 3) := by decide +kernel
theorem dX7_init_59 : decode cX7_init 59 = .ok (.aload_n 0, 1) := by decide +kernel
theorem dX7_init_60 : decode cX7_init 60 = .ok (.new 7, 3) := by decide +kernel
theorem dX7_init_63 : decode cX7_init 63 = .ok (.dup, 1) := by decide +kernel
theorem dX7_init_64 : decode cX7_init 64 = .ok (.invokespecial 9, 3) := by decide +kernel
theorem dX7_init_67 : decode cX7_init 67 = .ok (.putfield 28, 3) := by decide +kernel
theorem dX7_init_70 : decode cX7_init 70 = .ok (.aload_n 0, 1) := by decide +kernel
theorem dX7_init_71 : decode cX7_init 71 = .ok (.iconst 0, 1) := by decide +kernel
theorem dX7_init_72 : decode cX7_init 72 = .ok (.putfield 31, 3) := by decide +kernel
theorem dX7_init_75 : decode cX7_init 75 = .ok (.aload_n 0, 1) := by decide +kernel
theorem dX7_init_76 : decode cX7_init 76 = .ok (.iconst 0, 1) := by decide +kernel
theorem dX7_init_77 : decode cX7_init 77 = .ok (.putfield 35, 3) := by decide +kernel
theorem dX7_init_80 : decode cX7_init 80 = .ok (.aload_n 0, 1) := by decide +kernel
theorem dX7_init_81 : decode cX7_init 81 = .ok (.iconst 0, 1) := by decide +kernel
theorem dX7_init_82 : decode cX7_init 82 = .ok (.putfield 38, 3) := by decide +kernel
theorem dX7_init_85 : decode cX7_init 85 = .ok (.aload_n 0, 1) := by decide +kernel
theorem dX7_init_86 : decode cX7_init 86 = .ok (.iconst 0, 1) := by decide +kernel
theorem dX7_init_87 : decode cX7_init 87 = .ok (.putfield 41, 3) := by decide +kernel
theorem dX7_init_90 : decode cX7_init 90 = .ok (.return_, 1) := by decide +kernel
theorem dX7_talk_0 : decode cX7_talk 0 = .ok (.iload_n 1, 1) := by decide +kernel
theorem dX7_talk_1 : decode cX7_talk 1 = .ok (.iconst 1, 1) := by decide +kernel
theorem dX7_talk_2 : decode cX7_talk 2 = .ok (.sipush 999, 3) := by decide +kernel
theorem dX7_talk_5 : decode cX7_talk 5 = .ok (.invokestatic 44, 3) := by decide +kernel
theorem dX7_talk_8 : decode cX7_talk 8 = .ok (.ifCond .ne 13, 3) := by decide +kernel
theorem dX7_talk_11 : decode cX7_talk 11 = .ok (.new 48, 3) := by decide +kernel
theorem dX7_talk_14 : decode cX7_talk 14 = .ok (.dup, 1) := by decide +kernel
theorem dX7_talk_15 : decode cX7_talk 15 = .ok (.ldc 50, 2) := by decide +kernel
theorem dX7_talk_17 : decode cX7_talk 17 = .ok (.invokespecial 52, 3) := by decide +kernel
theorem dX7_talk_20 : decode cX7_talk 20 = .ok (.athrow, 1) := by decide +kernel
theorem dX7_talk_21 : decode cX7_talk 21 = .ok (.aload_n 0, 1) := by decide +kernel
theorem dX7_talk_22 : decode cX7_talk 22 = .ok (.new 55, 3) := by decide +kernel
theorem dX7_talk_25 : decode cX7_talk 25 = .ok (.dup, 1) := by decide +kernel
theorem dX7_talk_26 : decode cX7_talk 26 = .ok (.iconst 0, 1) := by decide +kernel
theorem dX7_talk_27 : decode cX7_talk 27 = .ok (.iload_n 1, 1) := by decide +kernel
theorem dX7_talk_28 : decode cX7_talk 28 = .ok (.iconst (-1), 1) := by decide +kernel
theorem dX7_talk_29 : decode cX7_talk 29 = .ok (.invokespecial 57, 3) := by decide +kernel
theorem dX7_talk_32 : decode cX7_talk 32 = .ok (.invokevirtual 60, 3) := by decide +kernel
theorem dX7_talk_35 : decode cX7_talk 35 = .ok (.ireturn, 1) := by decide +kernel
theorem dX7_music_0 : decode cX7_music 0 = .ok (.iload_n 1, 1) := by decide +kernel
theorem dX7_music_1 : decode cX7_music 1 = .ok (.invokestatic 64, 3) := by decide +kernel
theorem dX7_music_4 : decode cX7_music 4 = .ok (.iload_n 2, 1) := by decide +kernel
theorem dX7_music_5 : decode cX7_music 5 = .ok (.iconst 1, 1) := by decide +kernel
theorem dX7_music_6 : decode cX7_music 6 = .ok (.sipush 300, 3) := by decide +kernel
theorem dX7_music_9 : decode cX7_music 9 = .ok (.invokestatic 44, 3) := by decide +kernel
theorem dX7_music_12 : decode cX7_music 12 = .ok (.ifCond .ne 13, 3) := by decide +kernel
theorem dX7_music_15 : decode cX7_music 15 = .ok (.new 48, 3) := by decide +kernel
theorem dX7_music_18 : decode cX7_music 18 = .ok (.dup, 1) := by decide +kernel
theorem dX7_music_19 : decode cX7_music 19 = .ok (.ldc 50, 2) := by decide +kernel
theorem dX7_music_21 : decode cX7_music 21 = .ok (.invokespecial 52, 3) := by decide +kernel
theorem dX7_music_24 : decode cX7_music 24 = .ok (.athrow, 1) := by decide +kernel
theorem dX7_music_25 : decode cX7_music 25 = .ok (.aload_n 0, 1) := by decide +kernel
theorem dX7_music_26 : decode cX7_music 26 = .ok (.getfield 35, 3) := by decide +kernel
theorem dX7_music_29 : decode cX7_music 29 = .ok (.iload_n 1, 1) := by decide +kernel
theorem dX7_music_30 : decode cX7_music 30 = .ok (.invokestatic 68, 3) := by decide +kernel
theorem dX7_music_33 : decode cX7_music 33 = .ok (.ifCond .eq 13, 3) := by decide +kernel
theorem dX7_music_36 : decode cX7_music 36 = .ok (.new 72, 3) := by decide +kernel
theorem dX7_music_39 : decode cX7_music 39 = .ok (.dup, 1) := by decide +kernel
theorem dX7_music_40 : decode cX7_music 40 = .ok (.ldc 74, 2) := by decide +kernel
theorem dX7_music_42 : decode cX7_music 42 = .ok (.invokespecial 76, 3) := by decide +kernel
theorem dX7_music_45 : decode cX7_music 45 = .ok (.athrow, 1) := by decide +kernel
theorem dX7_music_46 : decode cX7_music 46 = .ok (.aload_n 0, 1) := by decide +kernel
theorem dX7_music_47 : decode cX7_music 47 = .ok (.new 55, 3) := by decide +kernel
theorem dX7_music_50 : decode cX7_music 50 = .ok (.dup, 1) := by decide +kernel
theorem dX7_music_51 : decode cX7_music 51 = .ok (.iconst 1, 1) := by decide +kernel
theorem dX7_music_52 : decode cX7_music 52 = .ok (.iload_n 2, 1) := by decide +kernel
theorem dX7_music_53 : decode cX7_music 53 = .ok (.iload_n 1, 1) := by decide +kernel
theorem dX7_music_54 : decode cX7_music 54 = .ok (.invokespecial 57, 3) := by decide +kernel
theorem dX7_music_57 : decode cX7_music 57 = .ok (.invokevirtual 60, 3) := by decide +kernel
theorem dX7_music_60 : decode cX7_music 60 = .ok (.ireturn, 1) := by decide +kernel
theorem dX7_slot_0 : decode cX7_slot 0 = .ok (.iload_n 1, 1) := by decide +kernel
theorem dX7_slot_1 : decode cX7_slot 1 = .ok (.iconst 0, 1) := by decide +kernel
theorem dX7_slot_2 : decode cX7_slot 2 = .ok (.iconst 2, 1) := by decide +kernel
theorem dX7_slot_3 : decode cX7_slot 3 = .ok (.invokestatic 44, 3) := by decide +kernel
theorem dX7_slot_6 : decode cX7_slot 6 = .ok (.ifCond .ne 13, 3) := by decide +kernel
theorem dX7_slot_9 : decode cX7_slot 9 = .ok (.new 48, 3) := by decide +kernel
theorem dX7_slot_12 : decode cX7_slot 12 = .ok (.dup, 1) := by decide +kernel
theorem dX7_slot_13 : decode cX7_slot 13 = .ok (.ldc 77, 2) := by decide +kernel
theorem dX7_slot_15 : decode cX7_slot 15 = .ok (.invokespecial 52, 3) := by decide +kernel
theorem dX7_slot_18 : decode cX7_slot 18 = .ok (.athrow, 1) := by decide +kernel
theorem dX7_slot_19 : decode cX7_slot 19 = .ok (.aload_n 0, 1) := by decide +kernel
theorem dX7_slot_20 : decode cX7_slot 20 = .ok (.new 55, 3) := by decide +kernel
theorem dX7_slot_23 : decode cX7_slot 23 = .ok (.dup, 1) := by decide +kernel
theorem dX7_slot_24 : decode cX7_slot 24 = .ok (.iconst 2, 1) := by decide +kernel
theorem dX7_slot_25 : decode cX7_slot 25 = .ok (.iconst 0, 1) := by decide +kernel
theorem dX7_slot_26 : decode cX7_slot 26 = .ok (.iload_n 1, 1) := by decide +kernel
theorem dX7_slot_27 : decode cX7_slot 27 = .ok (.invokespecial 57, 3) := by decide +kernel
theorem dX7_slot_30 : decode cX7_slot 30 = .ok (.invokevirtual 60, 3) := by decide +kernel
theorem dX7_slot_33 : decode cX7_slot 33 = .ok (.ireturn, 1) := by decide +kernel
theorem dX7_item_0 : decode cX7_item 0 = .ok (.iload_n 1, 1) := by decide +kernel
theorem dX7_item_1 : decode cX7_item 1 = .ok (.invokestatic 79, 3) := by decide +kernel
theorem dX7_item_4 : decode cX7_item 4 = .ok (.iload_n 2, 1) := by decide +kernel
theorem dX7_item_5 : decode cX7_item 5 = .ok (.aload_n 0, 1) := by decide +kernel
theorem dX7_item_6 : decode cX7_item 6 = .ok (.getfield 31, 3) := by decide +kernel
theorem dX7_item_9 : decode cX7_item 9 = .ok (.sipush 9999, 3) := by decide +kernel
theorem dX7_item_12 : decode cX7_item 12 = .ok (.invokestatic 44, 3) := by decide +kernel
theorem dX7_item_15 : decode cX7_item 15 = .ok (.ifCond .ne 13, 3) := by decide +kernel
theorem dX7_item_18 : decode cX7_item 18 = .ok (.new 48, 3) := by decide +kernel
theorem dX7_item_21 : decode cX7_item 21 = .ok (.dup, 1) := by decide +kernel
theorem dX7_item_22 : decode cX7_item 22 = .ok (.ldc 82, 2) := by decide +kernel
theorem dX7_item_24 : decode cX7_item 24 = .ok (.invokespecial 52, 3) := by decide +kernel
theorem dX7_item_27 : decode cX7_item 27 = .ok (.athrow, 1) := by decide +kernel
theorem dX7_item_28 : decode cX7_item 28 = .ok (.aload_n 0, 1) := by decide +kernel
theorem dX7_item_29 : decode cX7_item 29 = .ok (.invokevirtual 84, 3) := by decide +kernel
theorem dX7_item_32 : decode cX7_item 32 = .ok (.ifCond .eq 15, 3) := by decide +kernel
theorem dX7_item_35 : decode cX7_item 35 = .ok (.aload_n 0, 1) := by decide +kernel
theorem dX7_item_36 : decode cX7_item 36 = .ok (.getfield 10, 3) := by decide +kernel
theorem dX7_item_39 : decode cX7_item 39 = .ok (.invokevirtual 88, 3) := by decide +kernel
theorem dX7_item_42 : decode cX7_item 42 = .ok (.bipush 24, 2) := by decide +kernel
theorem dX7_item_44 : decode cX7_item 44 = .ok (.if_icmp .lt 13, 3) := by decide +kernel
theorem dX7_item_47 : decode cX7_item 47 = .ok (.new 72, 3) := by decide +kernel
theorem dX7_item_50 : decode cX7_item 50 = .ok (.dup, 1) := by decide +kernel
theorem dX7_item_51 : decode cX7_item 51 = .ok (.ldc 92, 2) := by decide +kernel
theorem dX7_item_53 : decode cX7_item 53 = .ok (.invokespecial 76, 3) := by decide +kernel
theorem dX7_item_56 : decode cX7_item 56 = .ok (.athrow, 1) := by decide +kernel
theorem dX7_item_57 : decode cX7_item 57 = .ok (.new 94, 3) := by decide +kernel
theorem dX7_item_60 : decode cX7_item 60 = .ok (.dup, 1) := by decide +kernel
theorem dX7_item_61 : decode cX7_item 61 = .ok (.aload_n 0, 1) := by decide +kernel
theorem dX7_item_62 : decode cX7_item 62 = .ok (.getfield 10, 3) := by decide +kernel
theorem dX7_item_65 : decode cX7_item 65 = .ok (.invokevirtual 88, 3) := by decide +kernel
theorem dX7_item_68 : decode cX7_item 68 = .ok (.iload_n 1, 1) := by decide +kernel
theorem dX7_item_69 : decode cX7_item 69 = .ok (.iload_n 2, 1) := by decide +kernel
theorem dX7_item_70 : decode cX7_item 70 = .ok (.aload_n 0, 1) := by decide +kernel
theorem dX7_item_71 : decode cX7_item 71 = .ok (.getfield 28, 3) := by decide +kernel
theorem dX7_item_74 : decode cX7_item 74 = .ok (.invokespecial 96, 3) := by decide +kernel
theorem dX7_item_77 : decode cX7_item 77 = .ok (.astore_n 3, 1) := by decide +kernel
theorem dX7_item_78 : decode cX7_item 78 = .ok (.aload_n 0, 1) := by decide +kernel
theorem dX7_item_79 : decode cX7_item 79 = .ok (.new 7, 3) := by decide +kernel
theorem dX7_item_82 : decode cX7_item 82 = .ok (.dup, 1) := by decide +kernel
theorem dX7_item_83 : decode cX7_item 83 = .ok (.invokespecial 9, 3) := by decide +kernel
theorem dX7_item_86 : decode cX7_item 86 = .ok (.putfield 28, 3) := by decide +kernel
theorem dX7_item_89 : decode cX7_item 89 = .ok (.aload_n 0, 1) := by decide +kernel
theorem dX7_item_90 : decode cX7_item 90 = .ok (.getfield 10, 3) := by decide +kernel
theorem dX7_item_93 : decode cX7_item 93 = .ok (.aload_n 3, 1) := by decide +kernel
theorem dX7_item_94 : decode cX7_item 94 = .ok (.invokevirtual 99, 3) := by decide +kernel
theorem dX7_item_97 : decode cX7_item 97 = .ok (.pop, 1) := by decide +kernel
theorem dX7_item_98 : decode cX7_item 98 = .ok (.aload_n 0, 1) := by decide +kernel
theorem dX7_item_99 : decode cX7_item 99 = .ok (.aload_n 3, 1) := by decide +kernel
theorem dX7_item_100 : decode cX7_item 100 = .ok (.invokevirtual 103, 3) := by decide +kernel
theorem dX7_item_103 : decode cX7_item 103 = .ok (.pop, 1) := by decide +kernel
theorem dX7_item_104 : decode cX7_item 104 = .ok (.aload_n 0, 1) := by decide +kernel
theorem dX7_item_105 : decode cX7_item 105 = .ok (.aload_n 3, 1) := by decide +kernel
theorem dX7_item_106 : decode cX7_item 106 = .ok (.invokevirtual 107, 3) := by decide +kernel
theorem dX7_item_109 : decode cX7_item 109 = .ok (.aload_n 3, 1) := by decide +kernel
theorem dX7_item_110 : decode cX7_item 110 = .ok (.getfield 111, 3) := by decide +kernel
theorem dX7_item_113 : decode cX7_item 113 = .ok (.ireturn, 1) := by decide +kernel
theorem dX7_cut_0 : decode cX7_cut 0 = .ok (.aload_n 0, 1) := by decide +kernel
theorem dX7_cut_1 : decode cX7_cut 1 = .ok (.iload_n 1, 1) := by decide +kernel
theorem dX7_cut_2 : decode cX7_cut 2 = .ok (.invokevirtual 114, 3) := by decide +kernel
theorem dX7_cut_5 : decode cX7_cut 5 = .ok (.astore_n 3, 1) := by decide +kernel
theorem dX7_cut_6 : decode cX7_cut 6 = .ok (.aload_n 3, 1) := by decide +kernel
theorem dX7_cut_7 : decode cX7_cut 7 = .ok (.iload_n 2, 1) := by decide +kernel
theorem dX7_cut_8 : decode cX7_cut 8 = .ok (.invokevirtual 118, 3) := by decide +kernel
theorem dX7_cut_11 : decode cX7_cut 11 = .ok (.astore 4, 2) := by decide +kernel
theorem dX7_cut_13 : decode cX7_cut 13 = .ok (.aload_n 3, 1) := by decide +kernel
theorem dX7_cut_14 : decode cX7_cut 14 = .ok (.invokevirtual 122, 3) := by decide +kernel
theorem dX7_cut_17 : decode cX7_cut 17 = .ok (.iconst 1, 1) := by decide +kernel
theorem dX7_cut_18 : decode cX7_cut 18 = .ok (.isub, 1) := by decide +kernel
theorem dX7_cut_19 : decode cX7_cut 19 = .ok (.istore 5, 2) := by decide +kernel
theorem dX7_cut_21 : decode cX7_cut 21 = .ok (.aload 4, 2) := by decide +kernel
theorem dX7_cut_23 : decode cX7_cut 23 = .ok (.getfield 125, 3) := by decide +kernel
theorem dX7_cut_26 : decode cX7_cut 26 = .ok (.ifCond .ne 16, 3) := by decide +kernel
theorem dX7_cut_29 : decode cX7_cut 29 = .ok (.aload_n 3, 1) := by decide +kernel
theorem dX7_cut_30 : decode cX7_cut 30 = .ok (.getfield 129, 3) := by decide +kernel
theorem dX7_cut_33 : decode cX7_cut 33 = .ok (.ifCond .ne 9, 3) := by decide +kernel
theorem dX7_cut_36 : decode cX7_cut 36 = .ok (.iload 5, 2) := by decide +kernel
theorem dX7_cut_38 : decode cX7_cut 38 = .ok (.iconst 1, 1) := by decide +kernel
theorem dX7_cut_39 : decode cX7_cut 39 = .ok (.if_icmp .ge 13, 3) := by decide +kernel
theorem dX7_cut_42 : decode cX7_cut 42 = .ok (.new 72, 3) := by decide +kernel
theorem dX7_cut_45 : decode cX7_cut 45 = .ok (.dup, 1) := by decide +kernel
theorem dX7_cut_46 : decode cX7_cut 46 = .ok (.ldc 132, 2) := by decide +kernel
theorem dX7_cut_48 : decode cX7_cut 48 = .ok (.invokespecial 76, 3) := by decide +kernel
theorem dX7_cut_51 : decode cX7_cut 51 = .ok (.athrow, 1) := by decide +kernel
theorem dX7_cut_52 : decode cX7_cut 52 = .ok (.aload 4, 2) := by decide +kernel
theorem dX7_cut_54 : decode cX7_cut 54 = .ok (.iconst 1, 1) := by decide +kernel
theorem dX7_cut_55 : decode cX7_cut 55 = .ok (.putfield 125, 3) := by decide +kernel
theorem dX7_cut_58 : decode cX7_cut 58 = .ok (.aload_n 0, 1) := by decide +kernel
theorem dX7_cut_59 : decode cX7_cut 59 = .ok (.aload_n 3, 1) := by decide +kernel
theorem dX7_cut_60 : decode cX7_cut 60 = .ok (.invokevirtual 107, 3) := by decide +kernel
theorem dX7_cut_63 : decode cX7_cut 63 = .ok (.iload 5, 2) := by decide +kernel
theorem dX7_cut_65 : decode cX7_cut 65 = .ok (.ireturn, 1) := by decide +kernel
theorem dX7_withdraw_0 : decode cX7_withdraw 0 = .ok (.aload_n 0, 1) := by decide +kernel
theorem dX7_withdraw_1 : decode cX7_withdraw 1 = .ok (.iload_n 1, 1) := by decide +kernel
theorem dX7_withdraw_2 : decode cX7_withdraw 2 = .ok (.invokevirtual 114, 3) := by decide +kernel
theorem dX7_withdraw_5 : decode cX7_withdraw 5 = .ok (.astore_n 2, 1) := by decide +kernel
theorem dX7_withdraw_6 : decode cX7_withdraw 6 = .ok (.aload_n 2, 1) := by decide +kernel
theorem dX7_withdraw_7 : decode cX7_withdraw 7 = .ok (.getfield 129, 3) := by decide +kernel
theorem dX7_withdraw_10 : decode cX7_withdraw 10 = .ok (.ifCond .eq 13, 3) := by decide +kernel
theorem dX7_withdraw_13 : decode cX7_withdraw 13 = .ok (.new 72, 3) := by decide +kernel
theorem dX7_withdraw_16 : decode cX7_withdraw 16 = .ok (.dup, 1) := by decide +kernel
theorem dX7_withdraw_17 : decode cX7_withdraw 17 = .ok (.ldc 134, 2) := by decide +kernel
theorem dX7_withdraw_19 : decode cX7_withdraw 19 = .ok (.invokespecial 76, 3) := by decide +kernel
theorem dX7_withdraw_22 : decode cX7_withdraw 22 = .ok (.athrow, 1) := by decide +kernel
theorem dX7_withdraw_23 : decode cX7_withdraw 23 = .ok (.aload_n 2, 1) := by decide +kernel
theorem dX7_withdraw_24 : decode cX7_withdraw 24 = .ok (.iconst 1, 1) := by decide +kernel
theorem dX7_withdraw_25 : decode cX7_withdraw 25 = .ok (.putfield 129, 3) := by decide +kernel
theorem dX7_withdraw_28 : decode cX7_withdraw 28 = .ok (.aload_n 0, 1) := by decide +kernel
theorem dX7_withdraw_29 : decode cX7_withdraw 29 = .ok (.aload_n 2, 1) := by decide +kernel
theorem dX7_withdraw_30 : decode cX7_withdraw 30 = .ok (.invokevirtual 107, 3) := by decide +kernel
theorem dX7_withdraw_33 : decode cX7_withdraw 33 = .ok (.return_, 1) := by decide +kernel
theorem dX7_songOut_0 : decode cX7_songOut 0 = .ok (.iload_n 1, 1) := by decide +kernel
theorem dX7_songOut_1 : decode cX7_songOut 1 = .ok (.invokestatic 64, 3) := by decide +kernel
theorem dX7_songOut_4 : decode cX7_songOut 4 = .ok (.aload_n 0, 1) := by decide +kernel
theorem dX7_songOut_5 : decode cX7_songOut 5 = .ok (.getfield 35, 3) := by decide +kernel
theorem dX7_songOut_8 : decode cX7_songOut 8 = .ok (.iload_n 1, 1) := by decide +kernel
theorem dX7_songOut_9 : decode cX7_songOut 9 = .ok (.invokestatic 68, 3) := by decide +kernel
theorem dX7_songOut_12 : decode cX7_songOut 12 = .ok (.ifCond .eq 13, 3) := by decide +kernel
theorem dX7_songOut_15 : decode cX7_songOut 15 = .ok (.new 72, 3) := by decide +kernel
theorem dX7_songOut_18 : decode cX7_songOut 18 = .ok (.dup, 1) := by decide +kernel
theorem dX7_songOut_19 : decode cX7_songOut 19 = .ok (.ldc 74, 2) := by decide +kernel
theorem dX7_songOut_21 : decode cX7_songOut 21 = .ok (.invokespecial 76, 3) := by decide +kernel
theorem dX7_songOut_24 : decode cX7_songOut 24 = .ok (.athrow, 1) := by decide +kernel
theorem dX7_songOut_25 : decode cX7_songOut 25 = .ok (.aload_n 0, 1) := by decide +kernel
theorem dX7_songOut_26 : decode cX7_songOut 26 = .ok (.aload_n 0, 1) := by decide +kernel
theorem dX7_songOut_27 : decode cX7_songOut 27 = .ok (.getfield 35, 3) := by decide +kernel
theorem dX7_songOut_30 : decode cX7_songOut 30 = .ok (.iload_n 1, 1) := by decide +kernel
theorem dX7_songOut_31 : decode cX7_songOut 31 = .ok (.invokestatic 136, 3) := by decide +kernel
theorem dX7_songOut_34 : decode cX7_songOut 34 = .ok (.putfield 35, 3) := by decide +kernel
theorem dX7_songOut_37 : decode cX7_songOut 37 = .ok (.iconst 0, 1) := by decide +kernel
theorem dX7_songOut_38 : decode cX7_songOut 38 = .ok (.istore_n 2, 1) := by decide +kernel
theorem dX7_songOut_39 : decode cX7_songOut 39 = .ok (.iconst 0, 1) := by decide +kernel
theorem dX7_songOut_40 : decode cX7_songOut 40 = .ok (.istore_n 3, 1) := by decide +kernel
theorem dX7_songOut_41 : decode cX7_songOut 41 = .ok (.iload_n 3, 1) := by decide +kernel
theorem dX7_songOut_42 : decode cX7_songOut 42 = .ok (.aload_n 0, 1) := by decide +kernel
theorem dX7_songOut_43 : decode cX7_songOut 43 = .ok (.getfield 10, 3) := by decide +kernel
theorem dX7_songOut_46 : decode cX7_songOut 46 = .ok (.invokevirtual 88, 3) := by decide +kernel
theorem dX7_songOut_49 : decode cX7_songOut 49 = .ok (.if_icmp .ge 46, 3) := by decide +kernel
theorem dX7_songOut_52 : decode cX7_songOut 52 = .ok (.aload_n 0, 1) := by decide +kernel
theorem dX7_songOut_53 : decode cX7_songOut 53 = .ok (.getfield 10, 3) := by decide +kernel
theorem dX7_songOut_56 : decode cX7_songOut 56 = .ok (.iload_n 3, 1) := by decide +kernel
theorem dX7_songOut_57 : decode cX7_songOut 57 = .ok (.invokevirtual 140, 3) := by decide +kernel
theorem dX7_songOut_60 : decode cX7_songOut 60 = .ok (.checkcast 94, 3) := by decide +kernel
theorem dX7_songOut_63 : decode cX7_songOut 63 = .ok (.astore 4, 2) := by decide +kernel
theorem dX7_songOut_65 : decode cX7_songOut 65 = .ok (.aload_n 0, 1) := by decide +kernel
theorem dX7_songOut_66 : decode cX7_songOut 66 = .ok (.aload 4, 2) := by decide +kernel
theorem dX7_songOut_68 : decode cX7_songOut 68 = .ok (.invokevirtual 103, 3) := by decide +kernel
theorem dX7_songOut_71 : decode cX7_songOut 71 = .ok (.istore 5, 2) := by decide +kernel
theorem dX7_songOut_73 : decode cX7_songOut 73 = .ok (.iload 5, 2) := by decide +kernel
theorem dX7_songOut_75 : decode cX7_songOut 75 = .ok (.ifCond .le 9, 3) := by decide +kernel
theorem dX7_songOut_78 : decode cX7_songOut 78 = .ok (.aload_n 0, 1) := by decide +kernel
theorem dX7_songOut_79 : decode cX7_songOut 79 = .ok (.aload 4, 2) := by decide +kernel
theorem dX7_songOut_81 : decode cX7_songOut 81 = .ok (.invokevirtual 107, 3) := by decide +kernel
theorem dX7_songOut_84 : decode cX7_songOut 84 = .ok (.iload_n 2, 1) := by decide +kernel
theorem dX7_songOut_85 : decode cX7_songOut 85 = .ok (.iload 5, 2) := by decide +kernel
theorem dX7_songOut_87 : decode cX7_songOut 87 = .ok (.iadd, 1) := by decide +kernel
theorem dX7_songOut_88 : decode cX7_songOut 88 = .ok (.istore_n 2, 1) := by decide +kernel
theorem dX7_songOut_89 : decode cX7_songOut 89 = .ok (.iinc 3 1, 3) := by decide +kernel
theorem dX7_songOut_92 : decode cX7_songOut 92 = .ok (.goto (-51), 3) := by decide +kernel
theorem dX7_songOut_95 : decode cX7_songOut 95 = .ok (.iload_n 2, 1) := by decide +kernel
theorem dX7_songOut_96 : decode cX7_songOut 96 = .ok (.ireturn, 1) := by decide +kernel
theorem dX7_pass_0 : decode cX7_pass 0 = .ok (.iload_n 1, 1) := by decide +kernel
theorem dX7_pass_1 : decode cX7_pass 1 = .ok (.iconst 1, 1) := by decide +kernel
theorem dX7_pass_2 : decode cX7_pass 2 = .ok (.sipush 999, 3) := by decide +kernel
theorem dX7_pass_5 : decode cX7_pass 5 = .ok (.invokestatic 44, 3) := by decide +kernel
theorem dX7_pass_8 : decode cX7_pass 8 = .ok (.ifCond .ne 13, 3) := by decide +kernel
theorem dX7_pass_11 : decode cX7_pass 11 = .ok (.new 48, 3) := by decide +kernel
theorem dX7_pass_14 : decode cX7_pass 14 = .ok (.dup, 1) := by decide +kernel
theorem dX7_pass_15 : decode cX7_pass 15 = .ok (.ldc 144, 2) := by decide +kernel
theorem dX7_pass_17 : decode cX7_pass 17 = .ok (.invokespecial 52, 3) := by decide +kernel
theorem dX7_pass_20 : decode cX7_pass 20 = .ok (.athrow, 1) := by decide +kernel
theorem dX7_pass_21 : decode cX7_pass 21 = .ok (.aload_n 0, 1) := by decide +kernel
theorem dX7_pass_22 : decode cX7_pass 22 = .ok (.getfield 31, 3) := by decide +kernel
theorem dX7_pass_25 : decode cX7_pass 25 = .ok (.iload_n 1, 1) := by decide +kernel
theorem dX7_pass_26 : decode cX7_pass 26 = .ok (.iadd, 1) := by decide +kernel
theorem dX7_pass_27 : decode cX7_pass 27 = .ok (.sipush 9999, 3) := by decide +kernel
theorem dX7_pass_30 : decode cX7_pass 30 = .ok (.if_icmp .le 13, 3) := by decide +kernel
theorem dX7_pass_33 : decode cX7_pass 33 = .ok (.new 72, 3) := by decide +kernel
theorem dX7_pass_36 : decode cX7_pass 36 = .ok (.dup, 1) := by decide +kernel
theorem dX7_pass_37 : decode cX7_pass 37 = .ok (.ldc 146, 2) := by decide +kernel
theorem dX7_pass_39 : decode cX7_pass 39 = .ok (.invokespecial 76, 3) := by decide +kernel
theorem dX7_pass_42 : decode cX7_pass 42 = .ok (.athrow, 1) := by decide +kernel
theorem dX7_pass_43 : decode cX7_pass 43 = .ok (.iconst 0, 1) := by decide +kernel
theorem dX7_pass_44 : decode cX7_pass 44 = .ok (.istore_n 2, 1) := by decide +kernel
theorem dX7_pass_45 : decode cX7_pass 45 = .ok (.iload_n 2, 1) := by decide +kernel
theorem dX7_pass_46 : decode cX7_pass 46 = .ok (.iload_n 1, 1) := by decide +kernel
theorem dX7_pass_47 : decode cX7_pass 47 = .ok (.if_icmp .ge 23, 3) := by decide +kernel
theorem dX7_pass_50 : decode cX7_pass 50 = .ok (.aload_n 0, 1) := by decide +kernel
theorem dX7_pass_51 : decode cX7_pass 51 = .ok (.dup, 1) := by decide +kernel
theorem dX7_pass_52 : decode cX7_pass 52 = .ok (.getfield 31, 3) := by decide +kernel
theorem dX7_pass_55 : decode cX7_pass 55 = .ok (.iconst 1, 1) := by decide +kernel
theorem dX7_pass_56 : decode cX7_pass 56 = .ok (.iadd, 1) := by decide +kernel
theorem dX7_pass_57 : decode cX7_pass 57 = .ok (.putfield 31, 3) := by decide +kernel
theorem dX7_pass_60 : decode cX7_pass 60 = .ok (.aload_n 0, 1) := by decide +kernel
theorem dX7_pass_61 : decode cX7_pass 61 = .ok (.invokevirtual 148, 3) := by decide +kernel
theorem dX7_pass_64 : decode cX7_pass 64 = .ok (.iinc 2 1, 3) := by decide +kernel
theorem dX7_pass_67 : decode cX7_pass 67 = .ok (.goto (-22), 3) := by decide +kernel
theorem dX7_pass_70 : decode cX7_pass 70 = .ok (.aload_n 0, 1) := by decide +kernel
theorem dX7_pass_71 : decode cX7_pass 71 = .ok (.getfield 31, 3) := by decide +kernel
theorem dX7_pass_74 : decode cX7_pass 74 = .ok (.ireturn, 1) := by decide +kernel
theorem dX7_app_0 : decode cX7_app 0 = .ok (.iload_n 1, 1) := by decide +kernel
theorem dX7_app_1 : decode cX7_app 1 = .ok (.invokestatic 79, 3) := by decide +kernel
theorem dX7_app_4 : decode cX7_app 4 = .ok (.aload_n 0, 1) := by decide +kernel
theorem dX7_app_5 : decode cX7_app 5 = .ok (.getfield 19, 3) := by decide +kernel
theorem dX7_app_8 : decode cX7_app 8 = .ok (.invokevirtual 88, 3) := by decide +kernel
theorem dX7_app_11 : decode cX7_app 11 = .ok (.bipush 6, 2) := by decide +kernel
theorem dX7_app_13 : decode cX7_app 13 = .ok (.if_icmp .lt 13, 3) := by decide +kernel
theorem dX7_app_16 : decode cX7_app 16 = .ok (.new 72, 3) := by decide +kernel
theorem dX7_app_19 : decode cX7_app 19 = .ok (.dup, 1) := by decide +kernel
theorem dX7_app_20 : decode cX7_app 20 = .ok (.ldc 151, 2) := by decide +kernel
theorem dX7_app_22 : decode cX7_app 22 = .ok (.invokespecial 76, 3) := by decide +kernel
theorem dX7_app_25 : decode cX7_app 25 = .ok (.athrow, 1) := by decide +kernel
theorem dX7_app_26 : decode cX7_app 26 = .ok (.aload_n 0, 1) := by decide +kernel
theorem dX7_app_27 : decode cX7_app 27 = .ok (.getfield 19, 3) := by decide +kernel
theorem dX7_app_30 : decode cX7_app 30 = .ok (.new 153, 3) := by decide +kernel
theorem dX7_app_33 : decode cX7_app 33 = .ok (.dup, 1) := by decide +kernel
theorem dX7_app_34 : decode cX7_app 34 = .ok (.iload_n 1, 1) := by decide +kernel
theorem dX7_app_35 : decode cX7_app 35 = .ok (.invokespecial 155, 3) := by decide +kernel
theorem dX7_app_38 : decode cX7_app 38 = .ok (.invokevirtual 99, 3) := by decide +kernel
theorem dX7_app_41 : decode cX7_app 41 = .ok (.pop, 1) := by decide +kernel
theorem dX7_app_42 : decode cX7_app 42 = .ok (.aload_n 0, 1) := by decide +kernel
theorem dX7_app_43 : decode cX7_app 43 = .ok (.getfield 19, 3) := by decide +kernel
theorem dX7_app_46 : decode cX7_app 46 = .ok (.invokevirtual 88, 3) := by decide +kernel
theorem dX7_app_49 : decode cX7_app 49 = .ok (.iconst 1, 1) := by decide +kernel
theorem dX7_app_50 : decode cX7_app 50 = .ok (.isub, 1) := by decide +kernel
theorem dX7_app_51 : decode cX7_app 51 = .ok (.ireturn, 1) := by decide +kernel
theorem dX7_poll_0 : decode cX7_poll 0 = .ok (.aload_n 0, 1) := by decide +kernel
theorem dX7_poll_1 : decode cX7_poll 1 = .ok (.iload_n 1, 1) := by decide +kernel
theorem dX7_poll_2 : decode cX7_poll 2 = .ok (.invokevirtual 157, 3) := by decide +kernel
theorem dX7_poll_5 : decode cX7_poll 5 = .ok (.astore_n 2, 1) := by decide +kernel
theorem dX7_poll_6 : decode cX7_poll 6 = .ok (.aload_n 2, 1) := by decide +kernel
theorem dX7_poll_7 : decode cX7_poll 7 = .ok (.getfield 161, 3) := by decide +kernel
theorem dX7_poll_10 : decode cX7_poll 10 = .ok (.invokevirtual 164, 3) := by decide +kernel
theorem dX7_poll_13 : decode cX7_poll 13 = .ok (.iconst 0, 1) := by decide +kernel
theorem dX7_poll_14 : decode cX7_poll 14 = .ok (.istore_n 3, 1) := by decide +kernel
theorem dX7_poll_15 : decode cX7_poll 15 = .ok (.iconst 0, 1) := by decide +kernel
theorem dX7_poll_16 : decode cX7_poll 16 = .ok (.aload_n 2, 1) := by decide +kernel
theorem dX7_poll_17 : decode cX7_poll 17 = .ok (.getfield 167, 3) := by decide +kernel
theorem dX7_poll_20 : decode cX7_poll 20 = .ok (.invokestatic 170, 3) := by decide +kernel
theorem dX7_poll_23 : decode cX7_poll 23 = .ok (.istore 4, 2) := by decide +kernel
theorem dX7_poll_25 : decode cX7_poll 25 = .ok (.iload 4, 2) := by decide +kernel
theorem dX7_poll_27 : decode cX7_poll 27 = .ok (.aload_n 0, 1) := by decide +kernel
theorem dX7_poll_28 : decode cX7_poll 28 = .ok (.getfield 16, 3) := by decide +kernel
theorem dX7_poll_31 : decode cX7_poll 31 = .ok (.invokevirtual 88, 3) := by decide +kernel
theorem dX7_poll_34 : decode cX7_poll 34 = .ok (.if_icmp .ge 67, 3) := by decide +kernel
theorem dX7_poll_37 : decode cX7_poll 37 = .ok (.aload_n 0, 1) := by decide +kernel
theorem dX7_poll_38 : decode cX7_poll 38 = .ok (.getfield 16, 3) := by decide +kernel
theorem dX7_poll_41 : decode cX7_poll 41 = .ok (.iload 4, 2) := by decide +kernel
theorem dX7_poll_43 : decode cX7_poll 43 = .ok (.invokevirtual 140, 3) := by decide +kernel
theorem dX7_poll_46 : decode cX7_poll 46 = .ok (.checkcast 94, 3) := by decide +kernel
theorem dX7_poll_49 : decode cX7_poll 49 = .ok (.astore 5, 2) := by decide +kernel
theorem dX7_poll_51 : decode cX7_poll 51 = .ok (.aload 5, 2) := by decide +kernel
theorem dX7_poll_53 : decode cX7_poll 53 = .ok (.getfield 175, 3) := by decide +kernel
theorem dX7_poll_56 : decode cX7_poll 56 = .ok (.aload_n 2, 1) := by decide +kernel
theorem dX7_poll_57 : decode cX7_poll 57 = .ok (.getfield 178, 3) := by decide +kernel
theorem dX7_poll_60 : decode cX7_poll 60 = .ok (.if_icmp .ne 35, 3) := by decide +kernel
theorem dX7_poll_63 : decode cX7_poll 63 = .ok (.iload_n 3, 1) := by decide +kernel
theorem dX7_poll_64 : decode cX7_poll 64 = .ok (.aload 5, 2) := by decide +kernel
theorem dX7_poll_66 : decode cX7_poll 66 = .ok (.getfield 111, 3) := by decide +kernel
theorem dX7_poll_69 : decode cX7_poll 69 = .ok (.invokestatic 68, 3) := by decide +kernel
theorem dX7_poll_72 : decode cX7_poll 72 = .ok (.ifCond .ne 23, 3) := by decide +kernel
theorem dX7_poll_75 : decode cX7_poll 75 = .ok (.iload_n 3, 1) := by decide +kernel
theorem dX7_poll_76 : decode cX7_poll 76 = .ok (.aload 5, 2) := by decide +kernel
theorem dX7_poll_78 : decode cX7_poll 78 = .ok (.getfield 111, 3) := by decide +kernel
theorem dX7_poll_81 : decode cX7_poll 81 = .ok (.invokestatic 136, 3) := by decide +kernel
theorem dX7_poll_84 : decode cX7_poll 84 = .ok (.istore_n 3, 1) := by decide +kernel
theorem dX7_poll_85 : decode cX7_poll 85 = .ok (.aload_n 2, 1) := by decide +kernel
theorem dX7_poll_86 : decode cX7_poll 86 = .ok (.getfield 161, 3) := by decide +kernel
theorem dX7_poll_89 : decode cX7_poll 89 = .ok (.aload 5, 2) := by decide +kernel
theorem dX7_poll_91 : decode cX7_poll 91 = .ok (.invokevirtual 99, 3) := by decide +kernel
theorem dX7_poll_94 : decode cX7_poll 94 = .ok (.pop, 1) := by decide +kernel
theorem dX7_poll_95 : decode cX7_poll 95 = .ok (.iinc 4 1, 3) := by decide +kernel
theorem dX7_poll_98 : decode cX7_poll 98 = .ok (.goto (-73), 3) := by decide +kernel
theorem dX7_poll_101 : decode cX7_poll 101 = .ok (.aload_n 2, 1) := by decide +kernel
theorem dX7_poll_102 : decode cX7_poll 102 = .ok (.aload_n 0, 1) := by decide +kernel
theorem dX7_poll_103 : decode cX7_poll 103 = .ok (.getfield 16, 3) := by decide +kernel
theorem dX7_poll_106 : decode cX7_poll 106 = .ok (.invokevirtual 88, 3) := by decide +kernel
theorem dX7_poll_109 : decode cX7_poll 109 = .ok (.putfield 167, 3) := by decide +kernel
theorem dX7_poll_112 : decode cX7_poll 112 = .ok (.aload_n 2, 1) := by decide +kernel
theorem dX7_poll_113 : decode cX7_poll 113 = .ok (.getfield 161, 3) := by decide +kernel
theorem dX7_poll_116 : decode cX7_poll 116 = .ok (.invokevirtual 88, 3) := by decide +kernel
theorem dX7_poll_119 : decode cX7_poll 119 = .ok (.ireturn, 1) := by decide +kernel
theorem dX7_hour_0 : decode cX7_hour 0 = .ok (.aload_n 0, 1) := by decide +kernel
theorem dX7_hour_1 : decode cX7_hour 1 = .ok (.getfield 31, 3) := by decide +kernel
theorem dX7_hour_4 : decode cX7_hour 4 = .ok (.ireturn, 1) := by decide +kernel
theorem dX7_ofItem_0 : decode cX7_ofItem 0 = .ok (.aload_n 0, 1) := by decide +kernel
theorem dX7_ofItem_1 : decode cX7_ofItem 1 = .ok (.iload_n 1, 1) := by decide +kernel
theorem dX7_ofItem_2 : decode cX7_ofItem 2 = .ok (.invokevirtual 114, 3) := by decide +kernel
theorem dX7_ofItem_5 : decode cX7_ofItem 5 = .ok (.astore_n 3, 1) := by decide +kernel
theorem dX7_ofItem_6 : decode cX7_ofItem 6 = .ok (.iload_n 2, 1) := by decide +kernel
theorem dX7_ofItem_7 : decode cX7_ofItem 7 = .ok (.tableswitch 106 0 7 #[45, 50, 55, 69, 82, 90, 95, 100], 45) := by decide +kernel
theorem dX7_ofItem_52 : decode cX7_ofItem 52 = .ok (.aload_n 3, 1) := by decide +kernel
theorem dX7_ofItem_53 : decode cX7_ofItem 53 = .ok (.getfield 175, 3) := by decide +kernel
theorem dX7_ofItem_56 : decode cX7_ofItem 56 = .ok (.ireturn, 1) := by decide +kernel
theorem dX7_ofItem_57 : decode cX7_ofItem 57 = .ok (.aload_n 3, 1) := by decide +kernel
theorem dX7_ofItem_58 : decode cX7_ofItem 58 = .ok (.getfield 237, 3) := by decide +kernel
theorem dX7_ofItem_61 : decode cX7_ofItem 61 = .ok (.ireturn, 1) := by decide +kernel
theorem dX7_ofItem_62 : decode cX7_ofItem 62 = .ok (.aload_n 0, 1) := by decide +kernel
theorem dX7_ofItem_63 : decode cX7_ofItem 63 = .ok (.aload_n 3, 1) := by decide +kernel
theorem dX7_ofItem_64 : decode cX7_ofItem 64 = .ok (.invokevirtual 196, 3) := by decide +kernel
theorem dX7_ofItem_67 : decode cX7_ofItem 67 = .ok (.ifCond .eq 7, 3) := by decide +kernel
theorem dX7_ofItem_70 : decode cX7_ofItem 70 = .ok (.iconst 1, 1) := by decide +kernel
theorem dX7_ofItem_71 : decode cX7_ofItem 71 = .ok (.goto 4, 3) := by decide +kernel
theorem dX7_ofItem_74 : decode cX7_ofItem 74 = .ok (.iconst 0, 1) := by decide +kernel
theorem dX7_ofItem_75 : decode cX7_ofItem 75 = .ok (.ireturn, 1) := by decide +kernel
theorem dX7_ofItem_76 : decode cX7_ofItem 76 = .ok (.aload_n 3, 1) := by decide +kernel
theorem dX7_ofItem_77 : decode cX7_ofItem 77 = .ok (.getfield 129, 3) := by decide +kernel
theorem dX7_ofItem_80 : decode cX7_ofItem 80 = .ok (.ifCond .eq 7, 3) := by decide +kernel
theorem dX7_ofItem_83 : decode cX7_ofItem 83 = .ok (.iconst 1, 1) := by decide +kernel
theorem dX7_ofItem_84 : decode cX7_ofItem 84 = .ok (.goto 4, 3) := by decide +kernel
theorem dX7_ofItem_87 : decode cX7_ofItem 87 = .ok (.iconst 0, 1) := by decide +kernel
theorem dX7_ofItem_88 : decode cX7_ofItem 88 = .ok (.ireturn, 1) := by decide +kernel
theorem dX7_ofItem_89 : decode cX7_ofItem 89 = .ok (.aload_n 3, 1) := by decide +kernel
theorem dX7_ofItem_90 : decode cX7_ofItem 90 = .ok (.getfield 207, 3) := by decide +kernel
theorem dX7_ofItem_93 : decode cX7_ofItem 93 = .ok (.invokevirtual 88, 3) := by decide +kernel
theorem dX7_ofItem_96 : decode cX7_ofItem 96 = .ok (.ireturn, 1) := by decide +kernel
theorem dX7_ofItem_97 : decode cX7_ofItem 97 = .ok (.aload_n 3, 1) := by decide +kernel
theorem dX7_ofItem_98 : decode cX7_ofItem 98 = .ok (.invokevirtual 122, 3) := by decide +kernel
theorem dX7_ofItem_101 : decode cX7_ofItem 101 = .ok (.ireturn, 1) := by decide +kernel
theorem dX7_ofItem_102 : decode cX7_ofItem 102 = .ok (.aload_n 3, 1) := by decide +kernel
theorem dX7_ofItem_103 : decode cX7_ofItem 103 = .ok (.invokevirtual 240, 3) := by decide +kernel
theorem dX7_ofItem_106 : decode cX7_ofItem 106 = .ok (.ireturn, 1) := by decide +kernel
theorem dX7_ofItem_107 : decode cX7_ofItem 107 = .ok (.aload_n 0, 1) := by decide +kernel
theorem dX7_ofItem_108 : decode cX7_ofItem 108 = .ok (.iload_n 1, 1) := by decide +kernel
theorem dX7_ofItem_109 : decode cX7_ofItem 109 = .ok (.invokevirtual 243, 3) := by decide +kernel
theorem dX7_ofItem_112 : decode cX7_ofItem 112 = .ok (.ireturn, 1) := by decide +kernel
theorem dX7_ofItem_113 : decode cX7_ofItem 113 = .ok (.new 48, 3) := by decide +kernel
theorem dX7_ofItem_116 : decode cX7_ofItem 116 = .ok (.dup, 1) := by decide +kernel
theorem dX7_ofItem_117 : decode cX7_ofItem 117 = .ok (.ldc 247, 2) := by decide +kernel
theorem dX7_ofItem_119 : decode cX7_ofItem 119 = .ok (.invokespecial 52, 3) := by decide +kernel
theorem dX7_ofItem_122 : decode cX7_ofItem 122 = .ok (.athrow, 1) := by decide +kernel
theorem dX7_ofPart_0 : decode cX7_ofPart 0 = .ok (.aload_n 0, 1) := by decide +kernel
theorem dX7_ofPart_1 : decode cX7_ofPart 1 = .ok (.iload_n 1, 1) := by decide +kernel
theorem dX7_ofPart_2 : decode cX7_ofPart 2 = .ok (.invokevirtual 114, 3) := by decide +kernel
theorem dX7_ofPart_5 : decode cX7_ofPart 5 = .ok (.iload_n 2, 1) := by decide +kernel
theorem dX7_ofPart_6 : decode cX7_ofPart 6 = .ok (.invokevirtual 118, 3) := by decide +kernel
theorem dX7_ofPart_9 : decode cX7_ofPart 9 = .ok (.astore 4, 2) := by decide +kernel
theorem dX7_ofPart_11 : decode cX7_ofPart 11 = .ok (.iload_n 3, 1) := by decide +kernel
theorem dX7_ofPart_12 : decode cX7_ofPart 12 = .ok (.tableswitch 64 0 3 #[32, 38, 44, 50], 32) := by decide +kernel
theorem dX7_ofPart_44 : decode cX7_ofPart 44 = .ok (.aload 4, 2) := by decide +kernel
theorem dX7_ofPart_46 : decode cX7_ofPart 46 = .ok (.getfield 249, 3) := by decide +kernel
theorem dX7_ofPart_49 : decode cX7_ofPart 49 = .ok (.ireturn, 1) := by decide +kernel
theorem dX7_ofPart_50 : decode cX7_ofPart 50 = .ok (.aload 4, 2) := by decide +kernel
theorem dX7_ofPart_52 : decode cX7_ofPart 52 = .ok (.getfield 252, 3) := by decide +kernel
theorem dX7_ofPart_55 : decode cX7_ofPart 55 = .ok (.ireturn, 1) := by decide +kernel
theorem dX7_ofPart_56 : decode cX7_ofPart 56 = .ok (.aload 4, 2) := by decide +kernel
theorem dX7_ofPart_58 : decode cX7_ofPart 58 = .ok (.getfield 253, 3) := by decide +kernel
theorem dX7_ofPart_61 : decode cX7_ofPart 61 = .ok (.ireturn, 1) := by decide +kernel
theorem dX7_ofPart_62 : decode cX7_ofPart 62 = .ok (.aload 4, 2) := by decide +kernel
theorem dX7_ofPart_64 : decode cX7_ofPart 64 = .ok (.getfield 125, 3) := by decide +kernel
theorem dX7_ofPart_67 : decode cX7_ofPart 67 = .ok (.ifCond .eq 7, 3) := by decide +kernel
theorem dX7_ofPart_70 : decode cX7_ofPart 70 = .ok (.iconst 1, 1) := by decide +kernel
theorem dX7_ofPart_71 : decode cX7_ofPart 71 = .ok (.goto 4, 3) := by decide +kernel
theorem dX7_ofPart_74 : decode cX7_ofPart 74 = .ok (.iconst 0, 1) := by decide +kernel
theorem dX7_ofPart_75 : decode cX7_ofPart 75 = .ok (.ireturn, 1) := by decide +kernel
theorem dX7_ofPart_76 : decode cX7_ofPart 76 = .ok (.new 48, 3) := by decide +kernel
theorem dX7_ofPart_79 : decode cX7_ofPart 79 = .ok (.dup, 1) := by decide +kernel
theorem dX7_ofPart_80 : decode cX7_ofPart 80 = .ok (.ldc 247, 2) := by decide +kernel
theorem dX7_ofPart_82 : decode cX7_ofPart 82 = .ok (.invokespecial 52, 3) := by decide +kernel
theorem dX7_ofPart_85 : decode cX7_ofPart 85 = .ok (.athrow, 1) := by decide +kernel
theorem dX7_told_0 : decode cX7_told 0 = .ok (.aload_n 0, 1) := by decide +kernel
theorem dX7_told_1 : decode cX7_told 1 = .ok (.iload_n 1, 1) := by decide +kernel
theorem dX7_told_2 : decode cX7_told 2 = .ok (.invokevirtual 157, 3) := by decide +kernel
theorem dX7_told_5 : decode cX7_told 5 = .ok (.astore_n 3, 1) := by decide +kernel
theorem dX7_told_6 : decode cX7_told 6 = .ok (.iload_n 2, 1) := by decide +kernel
theorem dX7_told_7 : decode cX7_told 7 = .ok (.ifCond .ge 14, 3) := by decide +kernel
theorem dX7_told_10 : decode cX7_told 10 = .ok (.new 256, 3) := by decide +kernel
theorem dX7_told_13 : decode cX7_told 13 = .ok (.dup, 1) := by decide +kernel
theorem dX7_told_14 : decode cX7_told 14 = .ok (.ldc_w 258, 3) := by decide +kernel
theorem dX7_told_17 : decode cX7_told 17 = .ok (.invokespecial 260, 3) := by decide +kernel
theorem dX7_told_20 : decode cX7_told 20 = .ok (.athrow, 1) := by decide +kernel
theorem dX7_told_21 : decode cX7_told 21 = .ok (.iload_n 2, 1) := by decide +kernel
theorem dX7_told_22 : decode cX7_told 22 = .ok (.aload_n 3, 1) := by decide +kernel
theorem dX7_told_23 : decode cX7_told 23 = .ok (.getfield 161, 3) := by decide +kernel
theorem dX7_told_26 : decode cX7_told 26 = .ok (.invokevirtual 88, 3) := by decide +kernel
theorem dX7_told_29 : decode cX7_told 29 = .ok (.if_icmp .ge 20, 3) := by decide +kernel
theorem dX7_told_32 : decode cX7_told 32 = .ok (.aload_n 3, 1) := by decide +kernel
theorem dX7_told_33 : decode cX7_told 33 = .ok (.getfield 161, 3) := by decide +kernel
theorem dX7_told_36 : decode cX7_told 36 = .ok (.iload_n 2, 1) := by decide +kernel
theorem dX7_told_37 : decode cX7_told 37 = .ok (.invokevirtual 140, 3) := by decide +kernel
theorem dX7_told_40 : decode cX7_told 40 = .ok (.checkcast 94, 3) := by decide +kernel
theorem dX7_told_43 : decode cX7_told 43 = .ok (.getfield 111, 3) := by decide +kernel
theorem dX7_told_46 : decode cX7_told 46 = .ok (.goto 4, 3) := by decide +kernel
theorem dX7_told_49 : decode cX7_told 49 = .ok (.iconst (-1), 1) := by decide +kernel
theorem dX7_told_50 : decode cX7_told 50 = .ok (.ireturn, 1) := by decide +kernel
theorem dX7_isIn_0 : decode cX7_isIn 0 = .ok (.iload_n 0, 1) := by decide +kernel
theorem dX7_isIn_1 : decode cX7_isIn 1 = .ok (.iload_n 1, 1) := by decide +kernel
theorem dX7_isIn_2 : decode cX7_isIn 2 = .ok (.if_icmp .lt 12, 3) := by decide +kernel
theorem dX7_isIn_5 : decode cX7_isIn 5 = .ok (.iload_n 0, 1) := by decide +kernel
theorem dX7_isIn_6 : decode cX7_isIn 6 = .ok (.iload_n 2, 1) := by decide +kernel
theorem dX7_isIn_7 : decode cX7_isIn 7 = .ok (.if_icmp .gt 7, 3) := by decide +kernel
theorem dX7_isIn_10 : decode cX7_isIn 10 = .ok (.iconst 1, 1) := by decide +kernel
theorem dX7_isIn_11 : decode cX7_isIn 11 = .ok (.goto 4, 3) := by decide +kernel
theorem dX7_isIn_14 : decode cX7_isIn 14 = .ok (.iconst 0, 1) := by decide +kernel
theorem dX7_isIn_15 : decode cX7_isIn 15 = .ok (.ireturn, 1) := by decide +kernel
theorem dX7_hasBit_0 : decode cX7_hasBit 0 = .ok (.iload_n 0, 1) := by decide +kernel
theorem dX7_hasBit_1 : decode cX7_hasBit 1 = .ok (.iconst 1, 1) := by decide +kernel
theorem dX7_hasBit_2 : decode cX7_hasBit 2 = .ok (.iload_n 1, 1) := by decide +kernel
theorem dX7_hasBit_3 : decode cX7_hasBit 3 = .ok (.ishl, 1) := by decide +kernel
theorem dX7_hasBit_4 : decode cX7_hasBit 4 = .ok (.iand, 1) := by decide +kernel
theorem dX7_hasBit_5 : decode cX7_hasBit 5 = .ok (.ifCond .eq 7, 3) := by decide +kernel
theorem dX7_hasBit_8 : decode cX7_hasBit 8 = .ok (.iconst 1, 1) := by decide +kernel
theorem dX7_hasBit_9 : decode cX7_hasBit 9 = .ok (.goto 4, 3) := by decide +kernel
theorem dX7_hasBit_12 : decode cX7_hasBit 12 = .ok (.iconst 0, 1) := by decide +kernel
theorem dX7_hasBit_13 : decode cX7_hasBit 13 = .ok (.ireturn, 1) := by decide +kernel
theorem dX7_withBit_0 : decode cX7_withBit 0 = .ok (.iload_n 0, 1) := by decide +kernel
theorem dX7_withBit_1 : decode cX7_withBit 1 = .ok (.iconst 1, 1) := by decide +kernel
theorem dX7_withBit_2 : decode cX7_withBit 2 = .ok (.iload_n 1, 1) := by decide +kernel
theorem dX7_withBit_3 : decode cX7_withBit 3 = .ok (.ishl, 1) := by decide +kernel
theorem dX7_withBit_4 : decode cX7_withBit 4 = .ok (.ior, 1) := by decide +kernel
theorem dX7_withBit_5 : decode cX7_withBit 5 = .ok (.ireturn, 1) := by decide +kernel
theorem dX7_needShow_0 : decode cX7_needShow 0 = .ok (.iload_n 0, 1) := by decide +kernel
theorem dX7_needShow_1 : decode cX7_needShow 1 = .ok (.ifCond .lt 8, 3) := by decide +kernel
theorem dX7_needShow_4 : decode cX7_needShow 4 = .ok (.iload_n 0, 1) := by decide +kernel
theorem dX7_needShow_5 : decode cX7_needShow 5 = .ok (.iconst 4, 1) := by decide +kernel
theorem dX7_needShow_6 : decode cX7_needShow 6 = .ok (.if_icmp .lt 14, 3) := by decide +kernel
theorem dX7_needShow_9 : decode cX7_needShow 9 = .ok (.new 256, 3) := by decide +kernel
theorem dX7_needShow_12 : decode cX7_needShow 12 = .ok (.dup, 1) := by decide +kernel
theorem dX7_needShow_13 : decode cX7_needShow 13 = .ok (.ldc_w 308, 3) := by decide +kernel
theorem dX7_needShow_16 : decode cX7_needShow 16 = .ok (.invokespecial 260, 3) := by decide +kernel
theorem dX7_needShow_19 : decode cX7_needShow 19 = .ok (.athrow, 1) := by decide +kernel
theorem dX7_needShow_20 : decode cX7_needShow 20 = .ok (.return_, 1) := by decide +kernel
theorem dX7_needSong_0 : decode cX7_needSong 0 = .ok (.iload_n 0, 1) := by decide +kernel
theorem dX7_needSong_1 : decode cX7_needSong 1 = .ok (.ifCond .lt 9, 3) := by decide +kernel
theorem dX7_needSong_4 : decode cX7_needSong 4 = .ok (.iload_n 0, 1) := by decide +kernel
theorem dX7_needSong_5 : decode cX7_needSong 5 = .ok (.bipush 10, 2) := by decide +kernel
theorem dX7_needSong_7 : decode cX7_needSong 7 = .ok (.if_icmp .lt 14, 3) := by decide +kernel
theorem dX7_needSong_10 : decode cX7_needSong 10 = .ok (.new 256, 3) := by decide +kernel
theorem dX7_needSong_13 : decode cX7_needSong 13 = .ok (.dup, 1) := by decide +kernel
theorem dX7_needSong_14 : decode cX7_needSong 14 = .ok (.ldc_w 310, 3) := by decide +kernel
theorem dX7_needSong_17 : decode cX7_needSong 17 = .ok (.invokespecial 260, 3) := by decide +kernel
theorem dX7_needSong_20 : decode cX7_needSong 20 = .ok (.athrow, 1) := by decide +kernel
theorem dX7_needSong_21 : decode cX7_needSong 21 = .ok (.return_, 1) := by decide +kernel
theorem dX7_itemAt_0 : decode cX7_itemAt 0 = .ok (.iload_n 1, 1) := by decide +kernel
theorem dX7_itemAt_1 : decode cX7_itemAt 1 = .ok (.ifCond .lt 14, 3) := by decide +kernel
theorem dX7_itemAt_4 : decode cX7_itemAt 4 = .ok (.iload_n 1, 1) := by decide +kernel
theorem dX7_itemAt_5 : decode cX7_itemAt 5 = .ok (.aload_n 0, 1) := by decide +kernel
theorem dX7_itemAt_6 : decode cX7_itemAt 6 = .ok (.getfield 10, 3) := by decide +kernel
theorem dX7_itemAt_9 : decode cX7_itemAt 9 = .ok (.invokevirtual 88, 3) := by decide +kernel
theorem dX7_itemAt_12 : decode cX7_itemAt 12 = .ok (.if_icmp .lt 14, 3) := by decide +kernel
theorem dX7_itemAt_15 : decode cX7_itemAt 15 = .ok (.new 256, 3) := by decide +kernel
theorem dX7_itemAt_18 : decode cX7_itemAt 18 = .ok (.dup, 1) := by decide +kernel
theorem dX7_itemAt_19 : decode cX7_itemAt 19 = .ok (.ldc_w 316, 3) := by decide +kernel
theorem dX7_itemAt_22 : decode cX7_itemAt 22 = .ok (.invokespecial 260, 3) := by decide +kernel
theorem dX7_itemAt_25 : decode cX7_itemAt 25 = .ok (.athrow, 1) := by decide +kernel
theorem dX7_itemAt_26 : decode cX7_itemAt 26 = .ok (.aload_n 0, 1) := by decide +kernel
theorem dX7_itemAt_27 : decode cX7_itemAt 27 = .ok (.getfield 10, 3) := by decide +kernel
theorem dX7_itemAt_30 : decode cX7_itemAt 30 = .ok (.iload_n 1, 1) := by decide +kernel
theorem dX7_itemAt_31 : decode cX7_itemAt 31 = .ok (.invokevirtual 140, 3) := by decide +kernel
theorem dX7_itemAt_34 : decode cX7_itemAt 34 = .ok (.checkcast 94, 3) := by decide +kernel
theorem dX7_itemAt_37 : decode cX7_itemAt 37 = .ok (.areturn, 1) := by decide +kernel
theorem dX7_appAt_0 : decode cX7_appAt 0 = .ok (.iload_n 1, 1) := by decide +kernel
theorem dX7_appAt_1 : decode cX7_appAt 1 = .ok (.ifCond .lt 14, 3) := by decide +kernel
theorem dX7_appAt_4 : decode cX7_appAt 4 = .ok (.iload_n 1, 1) := by decide +kernel
theorem dX7_appAt_5 : decode cX7_appAt 5 = .ok (.aload_n 0, 1) := by decide +kernel
theorem dX7_appAt_6 : decode cX7_appAt 6 = .ok (.getfield 19, 3) := by decide +kernel
theorem dX7_appAt_9 : decode cX7_appAt 9 = .ok (.invokevirtual 88, 3) := by decide +kernel
theorem dX7_appAt_12 : decode cX7_appAt 12 = .ok (.if_icmp .lt 14, 3) := by decide +kernel
theorem dX7_appAt_15 : decode cX7_appAt 15 = .ok (.new 256, 3) := by decide +kernel
theorem dX7_appAt_18 : decode cX7_appAt 18 = .ok (.dup, 1) := by decide +kernel
theorem dX7_appAt_19 : decode cX7_appAt 19 = .ok (.ldc_w 318, 3) := by decide +kernel
theorem dX7_appAt_22 : decode cX7_appAt 22 = .ok (.invokespecial 260, 3) := by decide +kernel
theorem dX7_appAt_25 : decode cX7_appAt 25 = .ok (.athrow, 1) := by decide +kernel
theorem dX7_appAt_26 : decode cX7_appAt 26 = .ok (.aload_n 0, 1) := by decide +kernel
theorem dX7_appAt_27 : decode cX7_appAt 27 = .ok (.getfield 19, 3) := by decide +kernel
theorem dX7_appAt_30 : decode cX7_appAt 30 = .ok (.iload_n 1, 1) := by decide +kernel
theorem dX7_appAt_31 : decode cX7_appAt 31 = .ok (.invokevirtual 140, 3) := by decide +kernel
theorem dX7_appAt_34 : decode cX7_appAt 34 = .ok (.checkcast 153, 3) := by decide +kernel
theorem dX7_appAt_37 : decode cX7_appAt 37 = .ok (.areturn, 1) := by decide +kernel
theorem dX7_addToDraft_0 : decode cX7_addToDraft 0 = .ok (.aload_n 0, 1) := by decide +kernel
theorem dX7_addToDraft_1 : decode cX7_addToDraft 1 = .ok (.getfield 28, 3) := by decide +kernel
theorem dX7_addToDraft_4 : decode cX7_addToDraft 4 = .ok (.invokevirtual 88, 3) := by decide +kernel
theorem dX7_addToDraft_7 : decode cX7_addToDraft 7 = .ok (.bipush 10, 2) := by decide +kernel
theorem dX7_addToDraft_9 : decode cX7_addToDraft 9 = .ok (.if_icmp .lt 14, 3) := by decide +kernel
theorem dX7_addToDraft_12 : decode cX7_addToDraft 12 = .ok (.new 72, 3) := by decide +kernel
theorem dX7_addToDraft_15 : decode cX7_addToDraft 15 = .ok (.dup, 1) := by decide +kernel
theorem dX7_addToDraft_16 : decode cX7_addToDraft 16 = .ok (.ldc_w 324, 3) := by decide +kernel
theorem dX7_addToDraft_19 : decode cX7_addToDraft 19 = .ok (.invokespecial 76, 3) := by decide +kernel
theorem dX7_addToDraft_22 : decode cX7_addToDraft 22 = .ok (.athrow, 1) := by decide +kernel
theorem dX7_addToDraft_23 : decode cX7_addToDraft 23 = .ok (.aload_n 0, 1) := by decide +kernel
theorem dX7_addToDraft_24 : decode cX7_addToDraft 24 = .ok (.getfield 28, 3) := by decide +kernel
theorem dX7_addToDraft_27 : decode cX7_addToDraft 27 = .ok (.aload_n 1, 1) := by decide +kernel
theorem dX7_addToDraft_28 : decode cX7_addToDraft 28 = .ok (.invokevirtual 99, 3) := by decide +kernel
theorem dX7_addToDraft_31 : decode cX7_addToDraft 31 = .ok (.pop, 1) := by decide +kernel
theorem dX7_addToDraft_32 : decode cX7_addToDraft 32 = .ok (.aload_n 0, 1) := by decide +kernel
theorem dX7_addToDraft_33 : decode cX7_addToDraft 33 = .ok (.getfield 28, 3) := by decide +kernel
theorem dX7_addToDraft_36 : decode cX7_addToDraft 36 = .ok (.invokevirtual 88, 3) := by decide +kernel
theorem dX7_addToDraft_39 : decode cX7_addToDraft 39 = .ok (.ireturn, 1) := by decide +kernel
theorem dX7_isOut_0 : decode cX7_isOut 0 = .ok (.aload_n 1, 1) := by decide +kernel
theorem dX7_isOut_1 : decode cX7_isOut 1 = .ok (.getfield 249, 3) := by decide +kernel
theorem dX7_isOut_4 : decode cX7_isOut 4 = .ok (.iconst 1, 1) := by decide +kernel
theorem dX7_isOut_5 : decode cX7_isOut 5 = .ok (.if_icmp .ne 21, 3) := by decide +kernel
theorem dX7_isOut_8 : decode cX7_isOut 8 = .ok (.aload_n 0, 1) := by decide +kernel
theorem dX7_isOut_9 : decode cX7_isOut 9 = .ok (.getfield 35, 3) := by decide +kernel
theorem dX7_isOut_12 : decode cX7_isOut 12 = .ok (.aload_n 1, 1) := by decide +kernel
theorem dX7_isOut_13 : decode cX7_isOut 13 = .ok (.getfield 253, 3) := by decide +kernel
theorem dX7_isOut_16 : decode cX7_isOut 16 = .ok (.invokestatic 68, 3) := by decide +kernel
theorem dX7_isOut_19 : decode cX7_isOut 19 = .ok (.ifCond .eq 7, 3) := by decide +kernel
theorem dX7_isOut_22 : decode cX7_isOut 22 = .ok (.iconst 1, 1) := by decide +kernel
theorem dX7_isOut_23 : decode cX7_isOut 23 = .ok (.goto 4, 3) := by decide +kernel
theorem dX7_isOut_26 : decode cX7_isOut 26 = .ok (.iconst 0, 1) := by decide +kernel
theorem dX7_isOut_27 : decode cX7_isOut 27 = .ok (.ireturn, 1) := by decide +kernel
theorem dX7_isDraftOfUse_0 : decode cX7_isDraftOfUse 0 = .ok (.iconst 0, 1) := by decide +kernel
theorem dX7_isDraftOfUse_1 : decode cX7_isDraftOfUse 1 = .ok (.istore_n 1, 1) := by decide +kernel
theorem dX7_isDraftOfUse_2 : decode cX7_isDraftOfUse 2 = .ok (.iload_n 1, 1) := by decide +kernel
theorem dX7_isDraftOfUse_3 : decode cX7_isDraftOfUse 3 = .ok (.aload_n 0, 1) := by decide +kernel
theorem dX7_isDraftOfUse_4 : decode cX7_isDraftOfUse 4 = .ok (.getfield 28, 3) := by decide +kernel
theorem dX7_isDraftOfUse_7 : decode cX7_isDraftOfUse 7 = .ok (.invokevirtual 88, 3) := by decide +kernel
theorem dX7_isDraftOfUse_10 : decode cX7_isDraftOfUse 10 = .ok (.if_icmp .ge 29, 3) := by decide +kernel
theorem dX7_isDraftOfUse_13 : decode cX7_isDraftOfUse 13 = .ok (.aload_n 0, 1) := by decide +kernel
theorem dX7_isDraftOfUse_14 : decode cX7_isDraftOfUse 14 = .ok (.aload_n 0, 1) := by decide +kernel
theorem dX7_isDraftOfUse_15 : decode cX7_isDraftOfUse 15 = .ok (.getfield 28, 3) := by decide +kernel
theorem dX7_isDraftOfUse_18 : decode cX7_isDraftOfUse 18 = .ok (.iload_n 1, 1) := by decide +kernel
theorem dX7_isDraftOfUse_19 : decode cX7_isDraftOfUse 19 = .ok (.invokevirtual 140, 3) := by decide +kernel
theorem dX7_isDraftOfUse_22 : decode cX7_isDraftOfUse 22 = .ok (.checkcast 55, 3) := by decide +kernel
theorem dX7_isDraftOfUse_25 : decode cX7_isDraftOfUse 25 = .ok (.invokevirtual 326, 3) := by decide +kernel
theorem dX7_isDraftOfUse_28 : decode cX7_isDraftOfUse 28 = .ok (.ifCond .ne 5, 3) := by decide +kernel
theorem dX7_isDraftOfUse_31 : decode cX7_isDraftOfUse 31 = .ok (.iconst 1, 1) := by decide +kernel
theorem dX7_isDraftOfUse_32 : decode cX7_isDraftOfUse 32 = .ok (.ireturn, 1) := by decide +kernel
theorem dX7_isDraftOfUse_33 : decode cX7_isDraftOfUse 33 = .ok (.iinc 1 1, 3) := by decide +kernel
theorem dX7_isDraftOfUse_36 : decode cX7_isDraftOfUse 36 = .ok (.goto (-34), 3) := by decide +kernel
theorem dX7_isDraftOfUse_39 : decode cX7_isDraftOfUse 39 = .ok (.iconst 0, 1) := by decide +kernel
theorem dX7_isDraftOfUse_40 : decode cX7_isDraftOfUse 40 = .ok (.ireturn, 1) := by decide +kernel
theorem dX7_cutWhatIsOut_0 : decode cX7_cutWhatIsOut 0 = .ok (.iconst 0, 1) := by decide +kernel
theorem dX7_cutWhatIsOut_1 : decode cX7_cutWhatIsOut 1 = .ok (.istore_n 2, 1) := by decide +kernel
theorem dX7_cutWhatIsOut_2 : decode cX7_cutWhatIsOut 2 = .ok (.iconst 0, 1) := by decide +kernel
theorem dX7_cutWhatIsOut_3 : decode cX7_cutWhatIsOut 3 = .ok (.istore_n 3, 1) := by decide +kernel
theorem dX7_cutWhatIsOut_4 : decode cX7_cutWhatIsOut 4 = .ok (.iload_n 3, 1) := by decide +kernel
theorem dX7_cutWhatIsOut_5 : decode cX7_cutWhatIsOut 5 = .ok (.aload_n 1, 1) := by decide +kernel
theorem dX7_cutWhatIsOut_6 : decode cX7_cutWhatIsOut 6 = .ok (.getfield 207, 3) := by decide +kernel
theorem dX7_cutWhatIsOut_9 : decode cX7_cutWhatIsOut 9 = .ok (.invokevirtual 88, 3) := by decide +kernel
theorem dX7_cutWhatIsOut_12 : decode cX7_cutWhatIsOut 12 = .ok (.if_icmp .ge 48, 3) := by decide +kernel
theorem dX7_cutWhatIsOut_15 : decode cX7_cutWhatIsOut 15 = .ok (.aload_n 1, 1) := by decide +kernel
theorem dX7_cutWhatIsOut_16 : decode cX7_cutWhatIsOut 16 = .ok (.getfield 207, 3) := by decide +kernel
theorem dX7_cutWhatIsOut_19 : decode cX7_cutWhatIsOut 19 = .ok (.iload_n 3, 1) := by decide +kernel
theorem dX7_cutWhatIsOut_20 : decode cX7_cutWhatIsOut 20 = .ok (.invokevirtual 140, 3) := by decide +kernel
theorem dX7_cutWhatIsOut_23 : decode cX7_cutWhatIsOut 23 = .ok (.checkcast 55, 3) := by decide +kernel
theorem dX7_cutWhatIsOut_26 : decode cX7_cutWhatIsOut 26 = .ok (.astore 4, 2) := by decide +kernel
theorem dX7_cutWhatIsOut_28 : decode cX7_cutWhatIsOut 28 = .ok (.aload 4, 2) := by decide +kernel
theorem dX7_cutWhatIsOut_30 : decode cX7_cutWhatIsOut 30 = .ok (.getfield 125, 3) := by decide +kernel
theorem dX7_cutWhatIsOut_33 : decode cX7_cutWhatIsOut 33 = .ok (.ifCond .ne 21, 3) := by decide +kernel
theorem dX7_cutWhatIsOut_36 : decode cX7_cutWhatIsOut 36 = .ok (.aload_n 0, 1) := by decide +kernel
theorem dX7_cutWhatIsOut_37 : decode cX7_cutWhatIsOut 37 = .ok (.aload 4, 2) := by decide +kernel
theorem dX7_cutWhatIsOut_39 : decode cX7_cutWhatIsOut 39 = .ok (.invokevirtual 326, 3) := by decide +kernel
theorem dX7_cutWhatIsOut_42 : decode cX7_cutWhatIsOut 42 = .ok (.ifCond .eq 12, 3) := by decide +kernel
theorem dX7_cutWhatIsOut_45 : decode cX7_cutWhatIsOut 45 = .ok (.aload 4, 2) := by decide +kernel
theorem dX7_cutWhatIsOut_47 : decode cX7_cutWhatIsOut 47 = .ok (.iconst 1, 1) := by decide +kernel
theorem dX7_cutWhatIsOut_48 : decode cX7_cutWhatIsOut 48 = .ok (.putfield 125, 3) := by decide +kernel
theorem dX7_cutWhatIsOut_51 : decode cX7_cutWhatIsOut 51 = .ok (.iinc 2 1, 3) := by decide +kernel
theorem dX7_cutWhatIsOut_54 : decode cX7_cutWhatIsOut 54 = .ok (.iinc 3 1, 3) := by decide +kernel
theorem dX7_cutWhatIsOut_57 : decode cX7_cutWhatIsOut 57 = .ok (.goto (-53), 3) := by decide +kernel
theorem dX7_cutWhatIsOut_60 : decode cX7_cutWhatIsOut 60 = .ok (.aload_n 1, 1) := by decide +kernel
theorem dX7_cutWhatIsOut_61 : decode cX7_cutWhatIsOut 61 = .ok (.invokevirtual 122, 3) := by decide +kernel
theorem dX7_cutWhatIsOut_64 : decode cX7_cutWhatIsOut 64 = .ok (.ifCond .ne 8, 3) := by decide +kernel
theorem dX7_cutWhatIsOut_67 : decode cX7_cutWhatIsOut 67 = .ok (.aload_n 1, 1) := by decide +kernel
theorem dX7_cutWhatIsOut_68 : decode cX7_cutWhatIsOut 68 = .ok (.iconst 1, 1) := by decide +kernel
theorem dX7_cutWhatIsOut_69 : decode cX7_cutWhatIsOut 69 = .ok (.putfield 129, 3) := by decide +kernel
theorem dX7_cutWhatIsOut_72 : decode cX7_cutWhatIsOut 72 = .ok (.iload_n 2, 1) := by decide +kernel
theorem dX7_cutWhatIsOut_73 : decode cX7_cutWhatIsOut 73 = .ok (.ireturn, 1) := by decide +kernel
theorem dX7_isReleased_0 : decode cX7_isReleased 0 = .ok (.aload_n 1, 1) := by decide +kernel
theorem dX7_isReleased_1 : decode cX7_isReleased 1 = .ok (.getfield 237, 3) := by decide +kernel
theorem dX7_isReleased_4 : decode cX7_isReleased 4 = .ok (.aload_n 0, 1) := by decide +kernel
theorem dX7_isReleased_5 : decode cX7_isReleased 5 = .ok (.getfield 31, 3) := by decide +kernel
theorem dX7_isReleased_8 : decode cX7_isReleased 8 = .ok (.if_icmp .gt 7, 3) := by decide +kernel
theorem dX7_isReleased_11 : decode cX7_isReleased 11 = .ok (.iconst 1, 1) := by decide +kernel
theorem dX7_isReleased_12 : decode cX7_isReleased 12 = .ok (.goto 4, 3) := by decide +kernel
theorem dX7_isReleased_15 : decode cX7_isReleased 15 = .ok (.iconst 0, 1) := by decide +kernel
theorem dX7_isReleased_16 : decode cX7_isReleased 16 = .ok (.ireturn, 1) := by decide +kernel
theorem dX7_noteChange_0 : decode cX7_noteChange 0 = .ok (.aload_n 0, 1) := by decide +kernel
theorem dX7_noteChange_1 : decode cX7_noteChange 1 = .ok (.aload_n 1, 1) := by decide +kernel
theorem dX7_noteChange_2 : decode cX7_noteChange 2 = .ok (.invokevirtual 196, 3) := by decide +kernel
theorem dX7_noteChange_5 : decode cX7_noteChange 5 = .ok (.ifCond .eq 12, 3) := by decide +kernel
theorem dX7_noteChange_8 : decode cX7_noteChange 8 = .ok (.aload_n 0, 1) := by decide +kernel
theorem dX7_noteChange_9 : decode cX7_noteChange 9 = .ok (.getfield 16, 3) := by decide +kernel
theorem dX7_noteChange_12 : decode cX7_noteChange 12 = .ok (.aload_n 1, 1) := by decide +kernel
theorem dX7_noteChange_13 : decode cX7_noteChange 13 = .ok (.invokevirtual 99, 3) := by decide +kernel
theorem dX7_noteChange_16 : decode cX7_noteChange 16 = .ok (.pop, 1) := by decide +kernel
theorem dX7_noteChange_17 : decode cX7_noteChange 17 = .ok (.return_, 1) := by decide +kernel
theorem dX7_releaseItemsOfThisHour_0 : decode cX7_releaseItemsOfThisHour 0 = .ok (.iconst 0, 1) := by decide +kernel
theorem dX7_releaseItemsOfThisHour_1 : decode cX7_releaseItemsOfThisHour 1 = .ok (.istore_n 1, 1) := by decide +kernel
theorem dX7_releaseItemsOfThisHour_2 : decode cX7_releaseItemsOfThisHour 2 = .ok (.iload_n 1, 1) := by decide +kernel
theorem dX7_releaseItemsOfThisHour_3 : decode cX7_releaseItemsOfThisHour 3 = .ok (.aload_n 0, 1) := by decide +kernel
theorem dX7_releaseItemsOfThisHour_4 : decode cX7_releaseItemsOfThisHour 4 = .ok (.getfield 10, 3) := by decide +kernel
theorem dX7_releaseItemsOfThisHour_7 : decode cX7_releaseItemsOfThisHour 7 = .ok (.invokevirtual 88, 3) := by decide +kernel
theorem dX7_releaseItemsOfThisHour_10 : decode cX7_releaseItemsOfThisHour 10 = .ok (.if_icmp .ge 41, 3) := by decide +kernel
theorem dX7_releaseItemsOfThisHour_13 : decode cX7_releaseItemsOfThisHour 13 = .ok (.aload_n 0, 1) := by decide +kernel
theorem dX7_releaseItemsOfThisHour_14 : decode cX7_releaseItemsOfThisHour 14 = .ok (.getfield 10, 3) := by decide +kernel
theorem dX7_releaseItemsOfThisHour_17 : decode cX7_releaseItemsOfThisHour 17 = .ok (.iload_n 1, 1) := by decide +kernel
theorem dX7_releaseItemsOfThisHour_18 : decode cX7_releaseItemsOfThisHour 18 = .ok (.invokevirtual 140, 3) := by decide +kernel
theorem dX7_releaseItemsOfThisHour_21 : decode cX7_releaseItemsOfThisHour 21 = .ok (.checkcast 94, 3) := by decide +kernel
theorem dX7_releaseItemsOfThisHour_24 : decode cX7_releaseItemsOfThisHour 24 = .ok (.astore_n 2, 1) := by decide +kernel
theorem dX7_releaseItemsOfThisHour_25 : decode cX7_releaseItemsOfThisHour 25 = .ok (.aload_n 2, 1) := by decide +kernel
theorem dX7_releaseItemsOfThisHour_26 : decode cX7_releaseItemsOfThisHour 26 = .ok (.getfield 237, 3) := by decide +kernel
theorem dX7_releaseItemsOfThisHour_29 : decode cX7_releaseItemsOfThisHour 29 = .ok (.aload_n 0, 1) := by decide +kernel
theorem dX7_releaseItemsOfThisHour_30 : decode cX7_releaseItemsOfThisHour 30 = .ok (.getfield 31, 3) := by decide +kernel
theorem dX7_releaseItemsOfThisHour_33 : decode cX7_releaseItemsOfThisHour 33 = .ok (.if_icmp .ne 12, 3) := by decide +kernel
theorem dX7_releaseItemsOfThisHour_36 : decode cX7_releaseItemsOfThisHour 36 = .ok (.aload_n 0, 1) := by decide +kernel
theorem dX7_releaseItemsOfThisHour_37 : decode cX7_releaseItemsOfThisHour 37 = .ok (.getfield 16, 3) := by decide +kernel
theorem dX7_releaseItemsOfThisHour_40 : decode cX7_releaseItemsOfThisHour 40 = .ok (.aload_n 2, 1) := by decide +kernel
theorem dX7_releaseItemsOfThisHour_41 : decode cX7_releaseItemsOfThisHour 41 = .ok (.invokevirtual 99, 3) := by decide +kernel
theorem dX7_releaseItemsOfThisHour_44 : decode cX7_releaseItemsOfThisHour 44 = .ok (.pop, 1) := by decide +kernel
theorem dX7_releaseItemsOfThisHour_45 : decode cX7_releaseItemsOfThisHour 45 = .ok (.iinc 1 1, 3) := by decide +kernel
theorem dX7_releaseItemsOfThisHour_48 : decode cX7_releaseItemsOfThisHour 48 = .ok (.goto (-46), 3) := by decide +kernel
theorem dX7_releaseItemsOfThisHour_51 : decode cX7_releaseItemsOfThisHour 51 = .ok (.return_, 1) := by decide +kernel
theorem dX7_downloadsOf_0 : decode cX7_downloadsOf 0 = .ok (.iconst 0, 1) := by decide +kernel
theorem dX7_downloadsOf_1 : decode cX7_downloadsOf 1 = .ok (.istore_n 2, 1) := by decide +kernel
theorem dX7_downloadsOf_2 : decode cX7_downloadsOf 2 = .ok (.iconst 0, 1) := by decide +kernel
theorem dX7_downloadsOf_3 : decode cX7_downloadsOf 3 = .ok (.istore_n 3, 1) := by decide +kernel
theorem dX7_downloadsOf_4 : decode cX7_downloadsOf 4 = .ok (.iload_n 3, 1) := by decide +kernel
theorem dX7_downloadsOf_5 : decode cX7_downloadsOf 5 = .ok (.aload_n 0, 1) := by decide +kernel
theorem dX7_downloadsOf_6 : decode cX7_downloadsOf 6 = .ok (.getfield 25, 3) := by decide +kernel
theorem dX7_downloadsOf_9 : decode cX7_downloadsOf 9 = .ok (.invokevirtual 88, 3) := by decide +kernel
theorem dX7_downloadsOf_12 : decode cX7_downloadsOf 12 = .ok (.if_icmp .ge 30, 3) := by decide +kernel
theorem dX7_downloadsOf_15 : decode cX7_downloadsOf 15 = .ok (.aload_n 0, 1) := by decide +kernel
theorem dX7_downloadsOf_16 : decode cX7_downloadsOf 16 = .ok (.getfield 25, 3) := by decide +kernel
theorem dX7_downloadsOf_19 : decode cX7_downloadsOf 19 = .ok (.iload_n 3, 1) := by decide +kernel
theorem dX7_downloadsOf_20 : decode cX7_downloadsOf 20 = .ok (.invokevirtual 140, 3) := by decide +kernel
theorem dX7_downloadsOf_23 : decode cX7_downloadsOf 23 = .ok (.checkcast 202, 3) := by decide +kernel
theorem dX7_downloadsOf_26 : decode cX7_downloadsOf 26 = .ok (.getfield 278, 3) := by decide +kernel
theorem dX7_downloadsOf_29 : decode cX7_downloadsOf 29 = .ok (.iload_n 1, 1) := by decide +kernel
theorem dX7_downloadsOf_30 : decode cX7_downloadsOf 30 = .ok (.if_icmp .ne 6, 3) := by decide +kernel
theorem dX7_downloadsOf_33 : decode cX7_downloadsOf 33 = .ok (.iinc 2 1, 3) := by decide +kernel
theorem dX7_downloadsOf_36 : decode cX7_downloadsOf 36 = .ok (.iinc 3 1, 3) := by decide +kernel
theorem dX7_downloadsOf_39 : decode cX7_downloadsOf 39 = .ok (.goto (-35), 3) := by decide +kernel
theorem dX7_downloadsOf_42 : decode cX7_downloadsOf 42 = .ok (.iload_n 2, 1) := by decide +kernel
theorem dX7_downloadsOf_43 : decode cX7_downloadsOf 43 = .ok (.ireturn, 1) := by decide +kernel
