theorem dL_told_0 : decode cL_told 0 = .ok (.iload_n 1, 1) := by decide +kernel
theorem dL_told_1 : decode cL_told 1 = .ok (.aload_n 0, 1) := by decide +kernel
theorem dL_told_2 : decode cL_told 2 = .ok (.arraylength, 1) := by decide +kernel
theorem dL_told_3 : decode cL_told 3 = .ok (.if_icmp .ge 9, 3) := by decide +kernel
theorem dL_told_6 : decode cL_told 6 = .ok (.aload_n 0, 1) := by decide +kernel
theorem dL_told_7 : decode cL_told 7 = .ok (.iload_n 1, 1) := by decide +kernel
theorem dL_told_8 : decode cL_told 8 = .ok (.iaload, 1) := by decide +kernel
theorem dL_told_9 : decode cL_told 9 = .ok (.goto 14, 3) := by decide +kernel
theorem dL_told_12 : decode cL_told 12 = .ok (.ldc 7, 2) := by decide +kernel
theorem dL_told_14 : decode cL_told 14 = .ok (.iload_n 1, 1) := by decide +kernel
theorem dL_told_15 : decode cL_told 15 = .ok (.iconst 3, 1) := by decide +kernel
theorem dL_told_16 : decode cL_told 16 = .ok (.iadd, 1) := by decide +kernel
theorem dL_told_17 : decode cL_told 17 = .ok (.imul, 1) := by decide +kernel
theorem dL_told_18 : decode cL_told 18 = .ok (.iload_n 1, 1) := by decide +kernel
theorem dL_told_19 : decode cL_told 19 = .ok (.bipush 11, 2) := by decide +kernel
theorem dL_told_21 : decode cL_told 21 = .ok (.iadd, 1) := by decide +kernel
theorem dL_told_22 : decode cL_told 22 = .ok (.imul, 1) := by decide +kernel
theorem dL_told_23 : decode cL_told 23 = .ok (.ldc 8, 2) := by decide +kernel
theorem dL_told_25 : decode cL_told 25 = .ok (.iand, 1) := by decide +kernel
theorem dL_told_26 : decode cL_told 26 = .ok (.ireturn, 1) := by decide +kernel
theorem dL_note_0 : decode cL_note 0 = .ok (.aload_n 0, 1) := by decide +kernel
theorem dL_note_1 : decode cL_note 1 = .ok (.iload_n 1, 1) := by decide +kernel
theorem dL_note_2 : decode cL_note 2 = .ok (.iconst 0, 1) := by decide +kernel
theorem dL_note_3 : decode cL_note 3 = .ok (.invokevirtual 9, 3) := by decide +kernel
theorem dL_note_6 : decode cL_note 6 = .ok (.istore 4, 2) := by decide +kernel
theorem dL_note_8 : decode cL_note 8 = .ok (.iconst 0, 1) := by decide +kernel
theorem dL_note_9 : decode cL_note 9 = .ok (.istore 5, 2) := by decide +kernel
theorem dL_note_11 : decode cL_note 11 = .ok (.iconst 0, 1) := by decide +kernel
theorem dL_note_12 : decode cL_note 12 = .ok (.istore 6, 2) := by decide +kernel
theorem dL_note_14 : decode cL_note 14 = .ok (.iload 6, 2) := by decide +kernel
theorem dL_note_16 : decode cL_note 16 = .ok (.aload_n 3, 1) := by decide +kernel
theorem dL_note_17 : decode cL_note 17 = .ok (.iload 4, 2) := by decide +kernel
theorem dL_note_19 : decode cL_note 19 = .ok (.iaload, 1) := by decide +kernel
theorem dL_note_20 : decode cL_note 20 = .ok (.if_icmp .ge 35, 3) := by decide +kernel
theorem dL_note_23 : decode cL_note 23 = .ok (.iload 5, 2) := by decide +kernel
theorem dL_note_25 : decode cL_note 25 = .ok (.ifCond .ne 17, 3) := by decide +kernel
theorem dL_note_28 : decode cL_note 28 = .ok (.aload_n 2, 1) := by decide +kernel
theorem dL_note_29 : decode cL_note 29 = .ok (.bipush 24, 2) := by decide +kernel
theorem dL_note_31 : decode cL_note 31 = .ok (.iload 4, 2) := by decide +kernel
theorem dL_note_33 : decode cL_note 33 = .ok (.imul, 1) := by decide +kernel
theorem dL_note_34 : decode cL_note 34 = .ok (.iload 6, 2) := by decide +kernel
theorem dL_note_36 : decode cL_note 36 = .ok (.iadd, 1) := by decide +kernel
theorem dL_note_37 : decode cL_note 37 = .ok (.iaload, 1) := by decide +kernel
theorem dL_note_38 : decode cL_note 38 = .ok (.iload_n 1, 1) := by decide +kernel
theorem dL_note_39 : decode cL_note 39 = .ok (.if_icmp .ne 7, 3) := by decide +kernel
theorem dL_note_42 : decode cL_note 42 = .ok (.iconst 1, 1) := by decide +kernel
theorem dL_note_43 : decode cL_note 43 = .ok (.goto 4, 3) := by decide +kernel
theorem dL_note_46 : decode cL_note 46 = .ok (.iconst 0, 1) := by decide +kernel
theorem dL_note_47 : decode cL_note 47 = .ok (.istore 5, 2) := by decide +kernel
theorem dL_note_49 : decode cL_note 49 = .ok (.iinc 6 1, 3) := by decide +kernel
theorem dL_note_52 : decode cL_note 52 = .ok (.goto (-38), 3) := by decide +kernel
theorem dL_note_55 : decode cL_note 55 = .ok (.iload 5, 2) := by decide +kernel
theorem dL_note_57 : decode cL_note 57 = .ok (.ifCond .ne 24, 3) := by decide +kernel
theorem dL_note_60 : decode cL_note 60 = .ok (.aload_n 2, 1) := by decide +kernel
theorem dL_note_61 : decode cL_note 61 = .ok (.bipush 24, 2) := by decide +kernel
theorem dL_note_63 : decode cL_note 63 = .ok (.iload 4, 2) := by decide +kernel
theorem dL_note_65 : decode cL_note 65 = .ok (.imul, 1) := by decide +kernel
theorem dL_note_66 : decode cL_note 66 = .ok (.aload_n 3, 1) := by decide +kernel
theorem dL_note_67 : decode cL_note 67 = .ok (.iload 4, 2) := by decide +kernel
theorem dL_note_69 : decode cL_note 69 = .ok (.iaload, 1) := by decide +kernel
theorem dL_note_70 : decode cL_note 70 = .ok (.iadd, 1) := by decide +kernel
theorem dL_note_71 : decode cL_note 71 = .ok (.iload_n 1, 1) := by decide +kernel
theorem dL_note_72 : decode cL_note 72 = .ok (.iastore, 1) := by decide +kernel
theorem dL_note_73 : decode cL_note 73 = .ok (.aload_n 3, 1) := by decide +kernel
theorem dL_note_74 : decode cL_note 74 = .ok (.iload 4, 2) := by decide +kernel
theorem dL_note_76 : decode cL_note 76 = .ok (.dup2, 1) := by decide +kernel
theorem dL_note_77 : decode cL_note 77 = .ok (.iaload, 1) := by decide +kernel
theorem dL_note_78 : decode cL_note 78 = .ok (.iconst 1, 1) := by decide +kernel
theorem dL_note_79 : decode cL_note 79 = .ok (.iadd, 1) := by decide +kernel
theorem dL_note_80 : decode cL_note 80 = .ok (.iastore, 1) := by decide +kernel
theorem dL_note_81 : decode cL_note 81 = .ok (.return_, 1) := by decide +kernel
theorem dL_isPolled_0 : decode cL_isPolled 0 = .ok (.aload_n 0, 1) := by decide +kernel
theorem dL_isPolled_1 : decode cL_isPolled 1 = .ok (.iload_n 1, 1) := by decide +kernel
theorem dL_isPolled_2 : decode cL_isPolled 2 = .ok (.invokevirtual 15, 3) := by decide +kernel
theorem dL_isPolled_5 : decode cL_isPolled 5 = .ok (.aload_n 3, 1) := by decide +kernel
theorem dL_isPolled_6 : decode cL_isPolled 6 = .ok (.iload_n 1, 1) := by decide +kernel
theorem dL_isPolled_7 : decode cL_isPolled 7 = .ok (.iaload, 1) := by decide +kernel
theorem dL_isPolled_8 : decode cL_isPolled 8 = .ok (.if_icmp .ne 7, 3) := by decide +kernel
theorem dL_isPolled_11 : decode cL_isPolled 11 = .ok (.iconst 1, 1) := by decide +kernel
theorem dL_isPolled_12 : decode cL_isPolled 12 = .ok (.goto 4, 3) := by decide +kernel
theorem dL_isPolled_15 : decode cL_isPolled 15 = .ok (.iconst 0, 1) := by decide +kernel
theorem dL_isPolled_16 : decode cL_isPolled 16 = .ok (.istore 4, 2) := by decide +kernel
theorem dL_isPolled_18 : decode cL_isPolled 18 = .ok (.iconst 0, 1) := by decide +kernel
theorem dL_isPolled_19 : decode cL_isPolled 19 = .ok (.istore 5, 2) := by decide +kernel
theorem dL_isPolled_21 : decode cL_isPolled 21 = .ok (.iload 5, 2) := by decide +kernel
theorem dL_isPolled_23 : decode cL_isPolled 23 = .ok (.aload_n 3, 1) := by decide +kernel
theorem dL_isPolled_24 : decode cL_isPolled 24 = .ok (.iload_n 1, 1) := by decide +kernel
theorem dL_isPolled_25 : decode cL_isPolled 25 = .ok (.iaload, 1) := by decide +kernel
theorem dL_isPolled_26 : decode cL_isPolled 26 = .ok (.if_icmp .ge 40, 3) := by decide +kernel
theorem dL_isPolled_29 : decode cL_isPolled 29 = .ok (.iload 4, 2) := by decide +kernel
theorem dL_isPolled_31 : decode cL_isPolled 31 = .ok (.ifCond .eq 26, 3) := by decide +kernel
theorem dL_isPolled_34 : decode cL_isPolled 34 = .ok (.aload_n 0, 1) := by decide +kernel
theorem dL_isPolled_35 : decode cL_isPolled 35 = .ok (.iload_n 1, 1) := by decide +kernel
theorem dL_isPolled_36 : decode cL_isPolled 36 = .ok (.iload 5, 2) := by decide +kernel
theorem dL_isPolled_38 : decode cL_isPolled 38 = .ok (.invokevirtual 19, 3) := by decide +kernel
theorem dL_isPolled_41 : decode cL_isPolled 41 = .ok (.aload_n 2, 1) := by decide +kernel
theorem dL_isPolled_42 : decode cL_isPolled 42 = .ok (.bipush 24, 2) := by decide +kernel
theorem dL_isPolled_44 : decode cL_isPolled 44 = .ok (.iload_n 1, 1) := by decide +kernel
theorem dL_isPolled_45 : decode cL_isPolled 45 = .ok (.imul, 1) := by decide +kernel
theorem dL_isPolled_46 : decode cL_isPolled 46 = .ok (.iload 5, 2) := by decide +kernel
theorem dL_isPolled_48 : decode cL_isPolled 48 = .ok (.iadd, 1) := by decide +kernel
theorem dL_isPolled_49 : decode cL_isPolled 49 = .ok (.iaload, 1) := by decide +kernel
theorem dL_isPolled_50 : decode cL_isPolled 50 = .ok (.if_icmp .ne 7, 3) := by decide +kernel
theorem dL_isPolled_53 : decode cL_isPolled 53 = .ok (.iconst 1, 1) := by decide +kernel
theorem dL_isPolled_54 : decode cL_isPolled 54 = .ok (.goto 4, 3) := by decide +kernel
theorem dL_isPolled_57 : decode cL_isPolled 57 = .ok (.iconst 0, 1) := by decide +kernel
theorem dL_isPolled_58 : decode cL_isPolled 58 = .ok (.istore 4, 2) := by decide +kernel
theorem dL_isPolled_60 : decode cL_isPolled 60 = .ok (.iinc 5 1, 3) := by decide +kernel
theorem dL_isPolled_63 : decode cL_isPolled 63 = .ok (.goto (-42), 3) := by decide +kernel
theorem dL_isPolled_66 : decode cL_isPolled 66 = .ok (.iload 4, 2) := by decide +kernel
theorem dL_isPolled_68 : decode cL_isPolled 68 = .ok (.ifCond .eq 30, 3) := by decide +kernel
theorem dL_isPolled_71 : decode cL_isPolled 71 = .ok (.aload_n 0, 1) := by decide +kernel
theorem dL_isPolled_72 : decode cL_isPolled 72 = .ok (.iload_n 1, 1) := by decide +kernel
theorem dL_isPolled_73 : decode cL_isPolled 73 = .ok (.aload_n 3, 1) := by decide +kernel
theorem dL_isPolled_74 : decode cL_isPolled 74 = .ok (.iload_n 1, 1) := by decide +kernel
theorem dL_isPolled_75 : decode cL_isPolled 75 = .ok (.iaload, 1) := by decide +kernel
theorem dL_isPolled_76 : decode cL_isPolled 76 = .ok (.invokevirtual 19, 3) := by decide +kernel
theorem dL_isPolled_79 : decode cL_isPolled 79 = .ok (.iconst (-1), 1) := by decide +kernel
theorem dL_isPolled_80 : decode cL_isPolled 80 = .ok (.if_icmp .ne 18, 3) := by decide +kernel
theorem dL_isPolled_83 : decode cL_isPolled 83 = .ok (.aload_n 0, 1) := by decide +kernel
theorem dL_isPolled_84 : decode cL_isPolled 84 = .ok (.iload_n 1, 1) := by decide +kernel
theorem dL_isPolled_85 : decode cL_isPolled 85 = .ok (.bipush 24, 2) := by decide +kernel
theorem dL_isPolled_87 : decode cL_isPolled 87 = .ok (.invokevirtual 19, 3) := by decide +kernel
theorem dL_isPolled_90 : decode cL_isPolled 90 = .ok (.iconst (-1), 1) := by decide +kernel
theorem dL_isPolled_91 : decode cL_isPolled 91 = .ok (.if_icmp .ne 7, 3) := by decide +kernel
theorem dL_isPolled_94 : decode cL_isPolled 94 = .ok (.iconst 1, 1) := by decide +kernel
theorem dL_isPolled_95 : decode cL_isPolled 95 = .ok (.goto 4, 3) := by decide +kernel
theorem dL_isPolled_98 : decode cL_isPolled 98 = .ok (.iconst 0, 1) := by decide +kernel
theorem dL_isPolled_99 : decode cL_isPolled 99 = .ok (.istore 4, 2) := by decide +kernel
theorem dL_isPolled_101 : decode cL_isPolled 101 = .ok (.aload_n 3, 1) := by decide +kernel
theorem dL_isPolled_102 : decode cL_isPolled 102 = .ok (.iload_n 1, 1) := by decide +kernel
theorem dL_isPolled_103 : decode cL_isPolled 103 = .ok (.iconst 0, 1) := by decide +kernel
theorem dL_isPolled_104 : decode cL_isPolled 104 = .ok (.iastore, 1) := by decide +kernel
theorem dL_isPolled_105 : decode cL_isPolled 105 = .ok (.iload 4, 2) := by decide +kernel
theorem dL_isPolled_107 : decode cL_isPolled 107 = .ok (.ireturn, 1) := by decide +kernel
theorem dL_draft_0 : decode cL_draft 0 = .ok (.iload_n 1, 1) := by decide +kernel
theorem dL_draft_1 : decode cL_draft 1 = .ok (.iconst 3, 1) := by decide +kernel
theorem dL_draft_2 : decode cL_draft 2 = .ok (.irem, 1) := by decide +kernel
theorem dL_draft_3 : decode cL_draft 3 = .ok (.ifCond .le 15, 3) := by decide +kernel
theorem dL_draft_6 : decode cL_draft 6 = .ok (.aload_n 0, 1) := by decide +kernel
theorem dL_draft_7 : decode cL_draft 7 = .ok (.iconst 1, 1) := by decide +kernel
theorem dL_draft_8 : decode cL_draft 8 = .ok (.iload_n 1, 1) := by decide +kernel
theorem dL_draft_9 : decode cL_draft 9 = .ok (.sipush 999, 3) := by decide +kernel
theorem dL_draft_12 : decode cL_draft 12 = .ok (.irem, 1) := by decide +kernel
theorem dL_draft_13 : decode cL_draft 13 = .ok (.iadd, 1) := by decide +kernel
theorem dL_draft_14 : decode cL_draft 14 = .ok (.invokevirtual 22, 3) := by decide +kernel
theorem dL_draft_17 : decode cL_draft 17 = .ok (.pop, 1) := by decide +kernel
theorem dL_draft_18 : decode cL_draft 18 = .ok (.iload_n 1, 1) := by decide +kernel
theorem dL_draft_19 : decode cL_draft 19 = .ok (.bipush 16, 2) := by decide +kernel
theorem dL_draft_21 : decode cL_draft 21 = .ok (.idiv, 1) := by decide +kernel
theorem dL_draft_22 : decode cL_draft 22 = .ok (.bipush 10, 2) := by decide +kernel
theorem dL_draft_24 : decode cL_draft 24 = .ok (.irem, 1) := by decide +kernel
theorem dL_draft_25 : decode cL_draft 25 = .ok (.istore 4, 2) := by decide +kernel
theorem dL_draft_27 : decode cL_draft 27 = .ok (.iconst 0, 1) := by decide +kernel
theorem dL_draft_28 : decode cL_draft 28 = .ok (.istore 5, 2) := by decide +kernel
theorem dL_draft_30 : decode cL_draft 30 = .ok (.iload 5, 2) := by decide +kernel
theorem dL_draft_32 : decode cL_draft 32 = .ok (.iconst 1, 1) := by decide +kernel
theorem dL_draft_33 : decode cL_draft 33 = .ok (.iload_n 1, 1) := by decide +kernel
theorem dL_draft_34 : decode cL_draft 34 = .ok (.iconst 4, 1) := by decide +kernel
theorem dL_draft_35 : decode cL_draft 35 = .ok (.idiv, 1) := by decide +kernel
theorem dL_draft_36 : decode cL_draft 36 = .ok (.iconst 3, 1) := by decide +kernel
theorem dL_draft_37 : decode cL_draft 37 = .ok (.irem, 1) := by decide +kernel
theorem dL_draft_38 : decode cL_draft 38 = .ok (.iadd, 1) := by decide +kernel
theorem dL_draft_39 : decode cL_draft 39 = .ok (.if_icmp .ge 46, 3) := by decide +kernel
theorem dL_draft_42 : decode cL_draft 42 = .ok (.lload_n 2, 1) := by decide +kernel
theorem dL_draft_43 : decode cL_draft 43 = .ok (.iload 4, 2) := by decide +kernel
theorem dL_draft_45 : decode cL_draft 45 = .ok (.iload 5, 2) := by decide +kernel
theorem dL_draft_47 : decode cL_draft 47 = .ok (.iadd, 1) := by decide +kernel
theorem dL_draft_48 : decode cL_draft 48 = .ok (.bipush 10, 2) := by decide +kernel
theorem dL_draft_50 : decode cL_draft 50 = .ok (.irem, 1) := by decide +kernel
theorem dL_draft_51 : decode cL_draft 51 = .ok (.lshr, 1) := by decide +kernel
theorem dL_draft_52 : decode cL_draft 52 = .ok (.lconst 1, 1) := by decide +kernel
theorem dL_draft_53 : decode cL_draft 53 = .ok (.land, 1) := by decide +kernel
theorem dL_draft_54 : decode cL_draft 54 = .ok (.lconst 0, 1) := by decide +kernel
theorem dL_draft_55 : decode cL_draft 55 = .ok (.lcmp, 1) := by decide +kernel
theorem dL_draft_56 : decode cL_draft 56 = .ok (.ifCond .ne 23, 3) := by decide +kernel
theorem dL_draft_59 : decode cL_draft 59 = .ok (.aload_n 0, 1) := by decide +kernel
theorem dL_draft_60 : decode cL_draft 60 = .ok (.iload 4, 2) := by decide +kernel
theorem dL_draft_62 : decode cL_draft 62 = .ok (.iload 5, 2) := by decide +kernel
theorem dL_draft_64 : decode cL_draft 64 = .ok (.iadd, 1) := by decide +kernel
theorem dL_draft_65 : decode cL_draft 65 = .ok (.bipush 10, 2) := by decide +kernel
theorem dL_draft_67 : decode cL_draft 67 = .ok (.irem, 1) := by decide +kernel
theorem dL_draft_68 : decode cL_draft 68 = .ok (.iconst 1, 1) := by decide +kernel
theorem dL_draft_69 : decode cL_draft 69 = .ok (.iload_n 1, 1) := by decide +kernel
theorem dL_draft_70 : decode cL_draft 70 = .ok (.sipush 300, 3) := by decide +kernel
theorem dL_draft_73 : decode cL_draft 73 = .ok (.irem, 1) := by decide +kernel
theorem dL_draft_74 : decode cL_draft 74 = .ok (.iadd, 1) := by decide +kernel
theorem dL_draft_75 : decode cL_draft 75 = .ok (.invokevirtual 25, 3) := by decide +kernel
theorem dL_draft_78 : decode cL_draft 78 = .ok (.pop, 1) := by decide +kernel
theorem dL_draft_79 : decode cL_draft 79 = .ok (.iinc 5 1, 3) := by decide +kernel
theorem dL_draft_82 : decode cL_draft 82 = .ok (.goto (-52), 3) := by decide +kernel
theorem dL_draft_85 : decode cL_draft 85 = .ok (.iload_n 1, 1) := by decide +kernel
theorem dL_draft_86 : decode cL_draft 86 = .ok (.iconst 3, 1) := by decide +kernel
theorem dL_draft_87 : decode cL_draft 87 = .ok (.irem, 1) := by decide +kernel
theorem dL_draft_88 : decode cL_draft 88 = .ok (.ifCond .eq 10, 3) := by decide +kernel
theorem dL_draft_91 : decode cL_draft 91 = .ok (.iload_n 1, 1) := by decide +kernel
theorem dL_draft_92 : decode cL_draft 92 = .ok (.bipush 7, 2) := by decide +kernel
theorem dL_draft_94 : decode cL_draft 94 = .ok (.irem, 1) := by decide +kernel
theorem dL_draft_95 : decode cL_draft 95 = .ok (.ifCond .ne 11, 3) := by decide +kernel
theorem dL_draft_98 : decode cL_draft 98 = .ok (.aload_n 0, 1) := by decide +kernel
theorem dL_draft_99 : decode cL_draft 99 = .ok (.iload_n 1, 1) := by decide +kernel
theorem dL_draft_100 : decode cL_draft 100 = .ok (.iconst 3, 1) := by decide +kernel
theorem dL_draft_101 : decode cL_draft 101 = .ok (.irem, 1) := by decide +kernel
theorem dL_draft_102 : decode cL_draft 102 = .ok (.invokevirtual 28, 3) := by decide +kernel
theorem dL_draft_105 : decode cL_draft 105 = .ok (.pop, 1) := by decide +kernel
theorem dL_draft_106 : decode cL_draft 106 = .ok (.return_, 1) := by decide +kernel
theorem dL_cuts_0 : decode cL_cuts 0 = .ok (.iload_n 2, 1) := by decide +kernel
theorem dL_cuts_1 : decode cL_cuts 1 = .ok (.sipush 512, 3) := by decide +kernel
theorem dL_cuts_4 : decode cL_cuts 4 = .ok (.idiv, 1) := by decide +kernel
theorem dL_cuts_5 : decode cL_cuts 5 = .ok (.aload_n 0, 1) := by decide +kernel
theorem dL_cuts_6 : decode cL_cuts 6 = .ok (.iload_n 1, 1) := by decide +kernel
theorem dL_cuts_7 : decode cL_cuts 7 = .ok (.iconst 4, 1) := by decide +kernel
theorem dL_cuts_8 : decode cL_cuts 8 = .ok (.invokevirtual 9, 3) := by decide +kernel
theorem dL_cuts_11 : decode cL_cuts 11 = .ok (.irem, 1) := by decide +kernel
theorem dL_cuts_12 : decode cL_cuts 12 = .ok (.istore 5, 2) := by decide +kernel
theorem dL_cuts_14 : decode cL_cuts 14 = .ok (.aload_n 0, 1) := by decide +kernel
theorem dL_cuts_15 : decode cL_cuts 15 = .ok (.iload_n 1, 1) := by decide +kernel
theorem dL_cuts_16 : decode cL_cuts 16 = .ok (.iconst 5, 1) := by decide +kernel
theorem dL_cuts_17 : decode cL_cuts 17 = .ok (.invokevirtual 9, 3) := by decide +kernel
theorem dL_cuts_20 : decode cL_cuts 20 = .ok (.istore 6, 2) := by decide +kernel
theorem dL_cuts_22 : decode cL_cuts 22 = .ok (.aload_n 0, 1) := by decide +kernel
theorem dL_cuts_23 : decode cL_cuts 23 = .ok (.iload_n 1, 1) := by decide +kernel
theorem dL_cuts_24 : decode cL_cuts 24 = .ok (.iload 5, 2) := by decide +kernel
theorem dL_cuts_26 : decode cL_cuts 26 = .ok (.iconst 3, 1) := by decide +kernel
theorem dL_cuts_27 : decode cL_cuts 27 = .ok (.invokevirtual 31, 3) := by decide +kernel
theorem dL_cuts_30 : decode cL_cuts 30 = .ok (.iconst 1, 1) := by decide +kernel
theorem dL_cuts_31 : decode cL_cuts 31 = .ok (.if_icmp .eq 19, 3) := by decide +kernel
theorem dL_cuts_34 : decode cL_cuts 34 = .ok (.aload_n 0, 1) := by decide +kernel
theorem dL_cuts_35 : decode cL_cuts 35 = .ok (.iload_n 1, 1) := by decide +kernel
theorem dL_cuts_36 : decode cL_cuts 36 = .ok (.iconst 3, 1) := by decide +kernel
theorem dL_cuts_37 : decode cL_cuts 37 = .ok (.invokevirtual 9, 3) := by decide +kernel
theorem dL_cuts_40 : decode cL_cuts 40 = .ok (.iconst 1, 1) := by decide +kernel
theorem dL_cuts_41 : decode cL_cuts 41 = .ok (.if_icmp .eq 9, 3) := by decide +kernel
theorem dL_cuts_44 : decode cL_cuts 44 = .ok (.iload 6, 2) := by decide +kernel
theorem dL_cuts_46 : decode cL_cuts 46 = .ok (.iconst 1, 1) := by decide +kernel
theorem dL_cuts_47 : decode cL_cuts 47 = .ok (.if_icmp .ne 5, 3) := by decide +kernel
theorem dL_cuts_50 : decode cL_cuts 50 = .ok (.iconst 1, 1) := by decide +kernel
theorem dL_cuts_51 : decode cL_cuts 51 = .ok (.ireturn, 1) := by decide +kernel
theorem dL_cuts_52 : decode cL_cuts 52 = .ok (.aload_n 0, 1) := by decide +kernel
theorem dL_cuts_53 : decode cL_cuts 53 = .ok (.iload_n 1, 1) := by decide +kernel
theorem dL_cuts_54 : decode cL_cuts 54 = .ok (.iload 5, 2) := by decide +kernel
theorem dL_cuts_56 : decode cL_cuts 56 = .ok (.invokevirtual 35, 3) := by decide +kernel
theorem dL_cuts_59 : decode cL_cuts 59 = .ok (.iload 6, 2) := by decide +kernel
theorem dL_cuts_61 : decode cL_cuts 61 = .ok (.iconst 1, 1) := by decide +kernel
theorem dL_cuts_62 : decode cL_cuts 62 = .ok (.isub, 1) := by decide +kernel
theorem dL_cuts_63 : decode cL_cuts 63 = .ok (.if_icmp .ne 28, 3) := by decide +kernel
theorem dL_cuts_66 : decode cL_cuts 66 = .ok (.aload_n 0, 1) := by decide +kernel
theorem dL_cuts_67 : decode cL_cuts 67 = .ok (.iload_n 1, 1) := by decide +kernel
theorem dL_cuts_68 : decode cL_cuts 68 = .ok (.iload 5, 2) := by decide +kernel
theorem dL_cuts_70 : decode cL_cuts 70 = .ok (.iconst 3, 1) := by decide +kernel
theorem dL_cuts_71 : decode cL_cuts 71 = .ok (.invokevirtual 31, 3) := by decide +kernel
theorem dL_cuts_74 : decode cL_cuts 74 = .ok (.iconst 1, 1) := by decide +kernel
theorem dL_cuts_75 : decode cL_cuts 75 = .ok (.if_icmp .ne 16, 3) := by decide +kernel
theorem dL_cuts_78 : decode cL_cuts 78 = .ok (.aload_n 0, 1) := by decide +kernel
theorem dL_cuts_79 : decode cL_cuts 79 = .ok (.iload_n 1, 1) := by decide +kernel
theorem dL_cuts_80 : decode cL_cuts 80 = .ok (.iconst 3, 1) := by decide +kernel
theorem dL_cuts_81 : decode cL_cuts 81 = .ok (.invokevirtual 9, 3) := by decide +kernel
theorem dL_cuts_84 : decode cL_cuts 84 = .ok (.ifCond .ne 7, 3) := by decide +kernel
theorem dL_cuts_87 : decode cL_cuts 87 = .ok (.iconst 1, 1) := by decide +kernel
theorem dL_cuts_88 : decode cL_cuts 88 = .ok (.goto 4, 3) := by decide +kernel
theorem dL_cuts_91 : decode cL_cuts 91 = .ok (.iconst 0, 1) := by decide +kernel
theorem dL_cuts_92 : decode cL_cuts 92 = .ok (.istore 7, 2) := by decide +kernel
theorem dL_cuts_94 : decode cL_cuts 94 = .ok (.aload_n 0, 1) := by decide +kernel
theorem dL_cuts_95 : decode cL_cuts 95 = .ok (.iload_n 1, 1) := by decide +kernel
theorem dL_cuts_96 : decode cL_cuts 96 = .ok (.iconst 2, 1) := by decide +kernel
theorem dL_cuts_97 : decode cL_cuts 97 = .ok (.invokevirtual 9, 3) := by decide +kernel
theorem dL_cuts_100 : decode cL_cuts 100 = .ok (.iconst 1, 1) := by decide +kernel
theorem dL_cuts_101 : decode cL_cuts 101 = .ok (.if_icmp .ne 11, 3) := by decide +kernel
theorem dL_cuts_104 : decode cL_cuts 104 = .ok (.aload_n 0, 1) := by decide +kernel
theorem dL_cuts_105 : decode cL_cuts 105 = .ok (.iload_n 1, 1) := by decide +kernel
theorem dL_cuts_106 : decode cL_cuts 106 = .ok (.aload_n 3, 1) := by decide +kernel
theorem dL_cuts_107 : decode cL_cuts 107 = .ok (.aload 4, 2) := by decide +kernel
theorem dL_cuts_109 : decode cL_cuts 109 = .ok (.invokestatic 38, 3) := by decide +kernel
theorem dL_cuts_112 : decode cL_cuts 112 = .ok (.iload 7, 2) := by decide +kernel
theorem dL_cuts_114 : decode cL_cuts 114 = .ok (.ireturn, 1) := by decide +kernel
theorem dL_goesOut_0 : decode cL_goesOut 0 = .ok (.bipush 24, 2) := by decide +kernel
theorem dL_goesOut_2 : decode cL_goesOut 2 = .ok (.newarray .int, 2) := by decide +kernel
theorem dL_goesOut_4 : decode cL_goesOut 4 = .ok (.astore 5, 2) := by decide +kernel
theorem dL_goesOut_6 : decode cL_goesOut 6 = .ok (.iconst 0, 1) := by decide +kernel
theorem dL_goesOut_7 : decode cL_goesOut 7 = .ok (.istore 6, 2) := by decide +kernel
theorem dL_goesOut_9 : decode cL_goesOut 9 = .ok (.iconst 0, 1) := by decide +kernel
theorem dL_goesOut_10 : decode cL_goesOut 10 = .ok (.istore 7, 2) := by decide +kernel
theorem dL_goesOut_12 : decode cL_goesOut 12 = .ok (.iload 7, 2) := by decide +kernel
theorem dL_goesOut_14 : decode cL_goesOut 14 = .ok (.iload_n 1, 1) := by decide +kernel
theorem dL_goesOut_15 : decode cL_goesOut 15 = .ok (.if_icmp .ge 21, 3) := by decide +kernel
theorem dL_goesOut_18 : decode cL_goesOut 18 = .ok (.aload 5, 2) := by decide +kernel
theorem dL_goesOut_20 : decode cL_goesOut 20 = .ok (.iload 7, 2) := by decide +kernel
theorem dL_goesOut_22 : decode cL_goesOut 22 = .ok (.aload_n 0, 1) := by decide +kernel
theorem dL_goesOut_23 : decode cL_goesOut 23 = .ok (.iload 7, 2) := by decide +kernel
theorem dL_goesOut_25 : decode cL_goesOut 25 = .ok (.iconst 5, 1) := by decide +kernel
theorem dL_goesOut_26 : decode cL_goesOut 26 = .ok (.invokevirtual 9, 3) := by decide +kernel
theorem dL_goesOut_29 : decode cL_goesOut 29 = .ok (.iastore, 1) := by decide +kernel
theorem dL_goesOut_30 : decode cL_goesOut 30 = .ok (.iinc 7 1, 3) := by decide +kernel
theorem dL_goesOut_33 : decode cL_goesOut 33 = .ok (.goto (-21), 3) := by decide +kernel
theorem dL_goesOut_36 : decode cL_goesOut 36 = .ok (.aload_n 0, 1) := by decide +kernel
theorem dL_goesOut_37 : decode cL_goesOut 37 = .ok (.iload_n 2, 1) := by decide +kernel
theorem dL_goesOut_38 : decode cL_goesOut 38 = .ok (.invokevirtual 44, 3) := by decide +kernel
theorem dL_goesOut_41 : decode cL_goesOut 41 = .ok (.istore 7, 2) := by decide +kernel
theorem dL_goesOut_43 : decode cL_goesOut 43 = .ok (.iconst 1, 1) := by decide +kernel
theorem dL_goesOut_44 : decode cL_goesOut 44 = .ok (.istore 8, 2) := by decide +kernel
theorem dL_goesOut_46 : decode cL_goesOut 46 = .ok (.iconst 0, 1) := by decide +kernel
theorem dL_goesOut_47 : decode cL_goesOut 47 = .ok (.istore 9, 2) := by decide +kernel
theorem dL_goesOut_49 : decode cL_goesOut 49 = .ok (.iload 9, 2) := by decide +kernel
theorem dL_goesOut_51 : decode cL_goesOut 51 = .ok (.iload_n 1, 1) := by decide +kernel
theorem dL_goesOut_52 : decode cL_goesOut 52 = .ok (.if_icmp .ge 89, 3) := by decide +kernel
theorem dL_goesOut_55 : decode cL_goesOut 55 = .ok (.aload_n 0, 1) := by decide +kernel
theorem dL_goesOut_56 : decode cL_goesOut 56 = .ok (.iload 9, 2) := by decide +kernel
theorem dL_goesOut_58 : decode cL_goesOut 58 = .ok (.iconst 5, 1) := by decide +kernel
theorem dL_goesOut_59 : decode cL_goesOut 59 = .ok (.invokevirtual 9, 3) := by decide +kernel
theorem dL_goesOut_62 : decode cL_goesOut 62 = .ok (.istore 10, 2) := by decide +kernel
theorem dL_goesOut_64 : decode cL_goesOut 64 = .ok (.iload 6, 2) := by decide +kernel
theorem dL_goesOut_66 : decode cL_goesOut 66 = .ok (.aload 5, 2) := by decide +kernel
theorem dL_goesOut_68 : decode cL_goesOut 68 = .ok (.iload 9, 2) := by decide +kernel
theorem dL_goesOut_70 : decode cL_goesOut 70 = .ok (.iaload, 1) := by decide +kernel
theorem dL_goesOut_71 : decode cL_goesOut 71 = .ok (.iload 10, 2) := by decide +kernel
theorem dL_goesOut_73 : decode cL_goesOut 73 = .ok (.isub, 1) := by decide +kernel
theorem dL_goesOut_74 : decode cL_goesOut 74 = .ok (.iadd, 1) := by decide +kernel
theorem dL_goesOut_75 : decode cL_goesOut 75 = .ok (.istore 6, 2) := by decide +kernel
theorem dL_goesOut_77 : decode cL_goesOut 77 = .ok (.iload 10, 2) := by decide +kernel
theorem dL_goesOut_79 : decode cL_goesOut 79 = .ok (.aload 5, 2) := by decide +kernel
theorem dL_goesOut_81 : decode cL_goesOut 81 = .ok (.iload 9, 2) := by decide +kernel
theorem dL_goesOut_83 : decode cL_goesOut 83 = .ok (.iaload, 1) := by decide +kernel
theorem dL_goesOut_84 : decode cL_goesOut 84 = .ok (.if_icmp .ge 23, 3) := by decide +kernel
theorem dL_goesOut_87 : decode cL_goesOut 87 = .ok (.aload_n 0, 1) := by decide +kernel
theorem dL_goesOut_88 : decode cL_goesOut 88 = .ok (.iload 9, 2) := by decide +kernel
theorem dL_goesOut_90 : decode cL_goesOut 90 = .ok (.iconst 2, 1) := by decide +kernel
theorem dL_goesOut_91 : decode cL_goesOut 91 = .ok (.invokevirtual 9, 3) := by decide +kernel
theorem dL_goesOut_94 : decode cL_goesOut 94 = .ok (.iconst 1, 1) := by decide +kernel
theorem dL_goesOut_95 : decode cL_goesOut 95 = .ok (.if_icmp .ne 12, 3) := by decide +kernel
theorem dL_goesOut_98 : decode cL_goesOut 98 = .ok (.aload_n 0, 1) := by decide +kernel
theorem dL_goesOut_99 : decode cL_goesOut 99 = .ok (.iload 9, 2) := by decide +kernel
theorem dL_goesOut_101 : decode cL_goesOut 101 = .ok (.aload_n 3, 1) := by decide +kernel
theorem dL_goesOut_102 : decode cL_goesOut 102 = .ok (.aload 4, 2) := by decide +kernel
theorem dL_goesOut_104 : decode cL_goesOut 104 = .ok (.invokestatic 38, 3) := by decide +kernel
theorem dL_goesOut_107 : decode cL_goesOut 107 = .ok (.iload 8, 2) := by decide +kernel
theorem dL_goesOut_109 : decode cL_goesOut 109 = .ok (.ifCond .eq 23, 3) := by decide +kernel
theorem dL_goesOut_112 : decode cL_goesOut 112 = .ok (.iload 10, 2) := by decide +kernel
theorem dL_goesOut_114 : decode cL_goesOut 114 = .ok (.ifCond .gt 14, 3) := by decide +kernel
theorem dL_goesOut_117 : decode cL_goesOut 117 = .ok (.aload_n 0, 1) := by decide +kernel
theorem dL_goesOut_118 : decode cL_goesOut 118 = .ok (.iload 9, 2) := by decide +kernel
theorem dL_goesOut_120 : decode cL_goesOut 120 = .ok (.iconst 3, 1) := by decide +kernel
theorem dL_goesOut_121 : decode cL_goesOut 121 = .ok (.invokevirtual 9, 3) := by decide +kernel
theorem dL_goesOut_124 : decode cL_goesOut 124 = .ok (.iconst 1, 1) := by decide +kernel
theorem dL_goesOut_125 : decode cL_goesOut 125 = .ok (.if_icmp .ne 7, 3) := by decide +kernel
theorem dL_goesOut_128 : decode cL_goesOut 128 = .ok (.iconst 1, 1) := by decide +kernel
theorem dL_goesOut_129 : decode cL_goesOut 129 = .ok (.goto 4, 3) := by decide +kernel
theorem dL_goesOut_132 : decode cL_goesOut 132 = .ok (.iconst 0, 1) := by decide +kernel
theorem dL_goesOut_133 : decode cL_goesOut 133 = .ok (.istore 8, 2) := by decide +kernel
theorem dL_goesOut_135 : decode cL_goesOut 135 = .ok (.iinc 9 1, 3) := by decide +kernel
theorem dL_goesOut_138 : decode cL_goesOut 138 = .ok (.goto (-89), 3) := by decide +kernel
theorem dL_goesOut_141 : decode cL_goesOut 141 = .ok (.iload 8, 2) := by decide +kernel
theorem dL_goesOut_143 : decode cL_goesOut 143 = .ok (.ifCond .eq 14, 3) := by decide +kernel
theorem dL_goesOut_146 : decode cL_goesOut 146 = .ok (.iload 6, 2) := by decide +kernel
theorem dL_goesOut_148 : decode cL_goesOut 148 = .ok (.iload 7, 2) := by decide +kernel
theorem dL_goesOut_150 : decode cL_goesOut 150 = .ok (.if_icmp .ne 7, 3) := by decide +kernel
theorem dL_goesOut_153 : decode cL_goesOut 153 = .ok (.iconst 1, 1) := by decide +kernel
theorem dL_goesOut_154 : decode cL_goesOut 154 = .ok (.goto 4, 3) := by decide +kernel
theorem dL_goesOut_157 : decode cL_goesOut 157 = .ok (.iconst 0, 1) := by decide +kernel
theorem dL_goesOut_158 : decode cL_goesOut 158 = .ok (.ireturn, 1) := by decide +kernel
