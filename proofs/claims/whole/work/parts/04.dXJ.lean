theorem dX0_init_0 : decode cX0_init 0 = .ok (.aload_n 0, 1) := by decide +kernel
theorem dX0_init_1 : decode cX0_init 1 = .ok (.invokespecial 1, 3) := by decide +kernel
theorem dX0_init_4 : decode cX0_init 4 = .ok (.aload_n 0, 1) := by decide +kernel
theorem dX0_init_5 : decode cX0_init 5 = .ok (.new 7, 3) := by decide +kernel
theorem dX0_init_8 : decode cX0_init 8 = .ok (.dup, 1) := by decide +kernel
theorem dX0_init_9 : decode cX0_init 9 = .ok (.invokespecial 9, 3) := by decide +kernel
theorem dX0_init_12 : decode cX0_init 12 = .ok (.putfield 10, 3) := by decide +kernel
theorem dX0_init_15 : decode cX0_init 15 = .ok (.aload_n 0, 1) := by decide +kernel
theorem dX0_init_16 : decode cX0_init 16 = .ok (.iconst 0, 1) := by decide +kernel
theorem dX0_init_17 : decode cX0_init 17 = .ok (.putfield 16, 3) := by decide +kernel
theorem dX0_init_20 : decode cX0_init 20 = .ok (.aload_n 0, 1) := by decide +kernel
theorem dX0_init_21 : decode cX0_init 21 = .ok (.iload_n 1, 1) := by decide +kernel
theorem dX0_init_22 : decode cX0_init 22 = .ok (.putfield 20, 3) := by decide +kernel
theorem dX0_init_25 : decode cX0_init 25 = .ok (.return_, 1) := by decide +kernel
theorem dX1_init_0 : decode cX1_init 0 = .ok (.aload_n 0, 1) := by decide +kernel
theorem dX1_init_1 : decode cX1_init 1 = .ok (.invokespecial 3, 3) := by decide +kernel
theorem dX1_init_4 : decode cX1_init 4 = .ok (.aload_n 0, 1) := by decide +kernel
theorem dX1_init_5 : decode cX1_init 5 = .ok (.iconst (-1), 1) := by decide +kernel
theorem dX1_init_6 : decode cX1_init 6 = .ok (.putfield 9, 3) := by decide +kernel
theorem dX1_init_9 : decode cX1_init 9 = .ok (.aload_n 0, 1) := by decide +kernel
theorem dX1_init_10 : decode cX1_init 10 = .ok (.iconst 0, 1) := by decide +kernel
theorem dX1_init_11 : decode cX1_init 11 = .ok (.putfield 15, 3) := by decide +kernel
theorem dX1_init_14 : decode cX1_init 14 = .ok (.aload_n 0, 1) := by decide +kernel
theorem dX1_init_15 : decode cX1_init 15 = .ok (.iload_n 1, 1) := by decide +kernel
theorem dX1_init_16 : decode cX1_init 16 = .ok (.putfield 18, 3) := by decide +kernel
theorem dX1_init_19 : decode cX1_init 19 = .ok (.aload_n 0, 1) := by decide +kernel
theorem dX1_init_20 : decode cX1_init 20 = .ok (.iload_n 2, 1) := by decide +kernel
theorem dX1_init_21 : decode cX1_init 21 = .ok (.putfield 21, 3) := by decide +kernel
theorem dX1_init_24 : decode cX1_init 24 = .ok (.aload_n 0, 1) := by decide +kernel
theorem dX1_init_25 : decode cX1_init 25 = .ok (.iload_n 3, 1) := by decide +kernel
theorem dX1_init_26 : decode cX1_init 26 = .ok (.putfield 24, 3) := by decide +kernel
theorem dX1_init_29 : decode cX1_init 29 = .ok (.aload_n 0, 1) := by decide +kernel
theorem dX1_init_30 : decode cX1_init 30 = .ok (.iload 4, 2) := by decide +kernel
theorem dX1_init_32 : decode cX1_init 32 = .ok (.putfield 27, 3) := by decide +kernel
theorem dX1_init_35 : decode cX1_init 35 = .ok (.aload_n 0, 1) := by decide +kernel
theorem dX1_init_36 : decode cX1_init 36 = .ok (.iload 5, 2) := by decide +kernel
theorem dX1_init_38 : decode cX1_init 38 = .ok (.putfield 30, 3) := by decide +kernel
theorem dX1_init_41 : decode cX1_init 41 = .ok (.aload_n 0, 1) := by decide +kernel
theorem dX1_init_42 : decode cX1_init 42 = .ok (.iload 6, 2) := by decide +kernel
theorem dX1_init_44 : decode cX1_init 44 = .ok (.putfield 33, 3) := by decide +kernel
theorem dX1_init_47 : decode cX1_init 47 = .ok (.aload_n 0, 1) := by decide +kernel
theorem dX1_init_48 : decode cX1_init 48 = .ok (.iload 7, 2) := by decide +kernel
theorem dX1_init_50 : decode cX1_init 50 = .ok (.putfield 36, 3) := by decide +kernel
theorem dX1_init_53 : decode cX1_init 53 = .ok (.return_, 1) := by decide +kernel
theorem dX1_dueIn_0 : decode cX1_dueIn 0 = .ok (.aload_n 0, 1) := by decide +kernel
theorem dX1_dueIn_1 : decode cX1_dueIn 1 = .ok (.getfield 30, 3) := by decide +kernel
theorem dX1_dueIn_4 : decode cX1_dueIn 4 = .ok (.aload_n 0, 1) := by decide +kernel
theorem dX1_dueIn_5 : decode cX1_dueIn 5 = .ok (.getfield 27, 3) := by decide +kernel
theorem dX1_dueIn_8 : decode cX1_dueIn 8 = .ok (.isub, 1) := by decide +kernel
theorem dX1_dueIn_9 : decode cX1_dueIn 9 = .ok (.istore_n 2, 1) := by decide +kernel
theorem dX1_dueIn_10 : decode cX1_dueIn 10 = .ok (.iload_n 2, 1) := by decide +kernel
theorem dX1_dueIn_11 : decode cX1_dueIn 11 = .ok (.iconst 1, 1) := by decide +kernel
theorem dX1_dueIn_12 : decode cX1_dueIn 12 = .ok (.if_icmp .lt 19, 3) := by decide +kernel
theorem dX1_dueIn_15 : decode cX1_dueIn 15 = .ok (.iload_n 1, 1) := by decide +kernel
theorem dX1_dueIn_16 : decode cX1_dueIn 16 = .ok (.aload_n 0, 1) := by decide +kernel
theorem dX1_dueIn_17 : decode cX1_dueIn 17 = .ok (.getfield 27, 3) := by decide +kernel
theorem dX1_dueIn_20 : decode cX1_dueIn 20 = .ok (.if_icmp .lt 11, 3) := by decide +kernel
theorem dX1_dueIn_23 : decode cX1_dueIn 23 = .ok (.iload_n 1, 1) := by decide +kernel
theorem dX1_dueIn_24 : decode cX1_dueIn 24 = .ok (.aload_n 0, 1) := by decide +kernel
theorem dX1_dueIn_25 : decode cX1_dueIn 25 = .ok (.getfield 30, 3) := by decide +kernel
theorem dX1_dueIn_28 : decode cX1_dueIn 28 = .ok (.if_icmp .lt 5, 3) := by decide +kernel
theorem dX1_dueIn_31 : decode cX1_dueIn 31 = .ok (.iconst 0, 1) := by decide +kernel
theorem dX1_dueIn_32 : decode cX1_dueIn 32 = .ok (.ireturn, 1) := by decide +kernel
theorem dX1_dueIn_33 : decode cX1_dueIn 33 = .ok (.aload_n 0, 1) := by decide +kernel
theorem dX1_dueIn_34 : decode cX1_dueIn 34 = .ok (.getfield 33, 3) := by decide +kernel
theorem dX1_dueIn_37 : decode cX1_dueIn 37 = .ok (.iload_n 1, 1) := by decide +kernel
theorem dX1_dueIn_38 : decode cX1_dueIn 38 = .ok (.aload_n 0, 1) := by decide +kernel
theorem dX1_dueIn_39 : decode cX1_dueIn 39 = .ok (.getfield 27, 3) := by decide +kernel
theorem dX1_dueIn_42 : decode cX1_dueIn 42 = .ok (.isub, 1) := by decide +kernel
theorem dX1_dueIn_43 : decode cX1_dueIn 43 = .ok (.iconst 1, 1) := by decide +kernel
theorem dX1_dueIn_44 : decode cX1_dueIn 44 = .ok (.iadd, 1) := by decide +kernel
theorem dX1_dueIn_45 : decode cX1_dueIn 45 = .ok (.imul, 1) := by decide +kernel
theorem dX1_dueIn_46 : decode cX1_dueIn 46 = .ok (.iload_n 2, 1) := by decide +kernel
theorem dX1_dueIn_47 : decode cX1_dueIn 47 = .ok (.idiv, 1) := by decide +kernel
theorem dX1_dueIn_48 : decode cX1_dueIn 48 = .ok (.ireturn, 1) := by decide +kernel
theorem dX2_init_0 : decode cX2_init 0 = .ok (.aload_n 0, 1) := by decide +kernel
theorem dX2_init_1 : decode cX2_init 1 = .ok (.invokespecial 3, 3) := by decide +kernel
theorem dX2_init_4 : decode cX2_init 4 = .ok (.aload_n 0, 1) := by decide +kernel
theorem dX2_init_5 : decode cX2_init 5 = .ok (.new 9, 3) := by decide +kernel
theorem dX2_init_8 : decode cX2_init 8 = .ok (.dup, 1) := by decide +kernel
theorem dX2_init_9 : decode cX2_init 9 = .ok (.invokespecial 11, 3) := by decide +kernel
theorem dX2_init_12 : decode cX2_init 12 = .ok (.putfield 12, 3) := by decide +kernel
theorem dX2_init_15 : decode cX2_init 15 = .ok (.aload_n 0, 1) := by decide +kernel
theorem dX2_init_16 : decode cX2_init 16 = .ok (.new 9, 3) := by decide +kernel
theorem dX2_init_19 : decode cX2_init 19 = .ok (.dup, 1) := by decide +kernel
theorem dX2_init_20 : decode cX2_init 20 = .ok (.invokespecial 11, 3) := by decide +kernel
theorem dX2_init_23 : decode cX2_init 23 = .ok (.putfield 18, 3) := by decide +kernel
theorem dX2_init_26 : decode cX2_init 26 = .ok (.aload_n 0, 1) := by decide +kernel
theorem dX2_init_27 : decode cX2_init 27 = .ok (.iconst 0, 1) := by decide +kernel
theorem dX2_init_28 : decode cX2_init 28 = .ok (.putfield 21, 3) := by decide +kernel
theorem dX2_init_31 : decode cX2_init 31 = .ok (.aload_n 0, 1) := by decide +kernel
theorem dX2_init_32 : decode cX2_init 32 = .ok (.iconst 0, 1) := by decide +kernel
theorem dX2_init_33 : decode cX2_init 33 = .ok (.putfield 25, 3) := by decide +kernel
theorem dX2_init_36 : decode cX2_init 36 = .ok (.aload_n 0, 1) := by decide +kernel
theorem dX2_init_37 : decode cX2_init 37 = .ok (.iconst 0, 1) := by decide +kernel
theorem dX2_init_38 : decode cX2_init 38 = .ok (.putfield 28, 3) := by decide +kernel
theorem dX2_init_41 : decode cX2_init 41 = .ok (.aload_n 0, 1) := by decide +kernel
theorem dX2_init_42 : decode cX2_init 42 = .ok (.iconst 0, 1) := by decide +kernel
theorem dX2_init_43 : decode cX2_init 43 = .ok (.putfield 31, 3) := by decide +kernel
theorem dX2_init_46 : decode cX2_init 46 = .ok (.aload_n 0, 1) := by decide +kernel
theorem dX2_init_47 : decode cX2_init 47 = .ok (.iload_n 1, 1) := by decide +kernel
theorem dX2_init_48 : decode cX2_init 48 = .ok (.putfield 34, 3) := by decide +kernel
theorem dX2_init_51 : decode cX2_init 51 = .ok (.aload_n 0, 1) := by decide +kernel
theorem dX2_init_52 : decode cX2_init 52 = .ok (.iload_n 2, 1) := by decide +kernel
theorem dX2_init_53 : decode cX2_init 53 = .ok (.putfield 37, 3) := by decide +kernel
theorem dX2_init_56 : decode cX2_init 56 = .ok (.aload_n 0, 1) := by decide +kernel
theorem dX2_init_57 : decode cX2_init 57 = .ok (.iload_n 3, 1) := by decide +kernel
theorem dX2_init_58 : decode cX2_init 58 = .ok (.putfield 40, 3) := by decide +kernel
theorem dX2_init_61 : decode cX2_init 61 = .ok (.aload_n 0, 1) := by decide +kernel
theorem dX2_init_62 : decode cX2_init 62 = .ok (.iload 4, 2) := by decide +kernel
theorem dX2_init_64 : decode cX2_init 64 = .ok (.putfield 43, 3) := by decide +kernel
theorem dX2_init_67 : decode cX2_init 67 = .ok (.return_, 1) := by decide +kernel
theorem dX2_isOf_0 : decode cX2_isOf 0 = .ok (.aload_n 0, 1) := by decide +kernel
theorem dX2_isOf_1 : decode cX2_isOf 1 = .ok (.getfield 37, 3) := by decide +kernel
theorem dX2_isOf_4 : decode cX2_isOf 4 = .ok (.iload_n 1, 1) := by decide +kernel
theorem dX2_isOf_5 : decode cX2_isOf 5 = .ok (.if_icmp .ne 15, 3) := by decide +kernel
theorem dX2_isOf_8 : decode cX2_isOf 8 = .ok (.aload_n 0, 1) := by decide +kernel
theorem dX2_isOf_9 : decode cX2_isOf 9 = .ok (.getfield 40, 3) := by decide +kernel
theorem dX2_isOf_12 : decode cX2_isOf 12 = .ok (.iload_n 2, 1) := by decide +kernel
theorem dX2_isOf_13 : decode cX2_isOf 13 = .ok (.if_icmp .ne 7, 3) := by decide +kernel
theorem dX2_isOf_16 : decode cX2_isOf 16 = .ok (.iconst 1, 1) := by decide +kernel
theorem dX2_isOf_17 : decode cX2_isOf 17 = .ok (.goto 4, 3) := by decide +kernel
theorem dX2_isOf_20 : decode cX2_isOf 20 = .ok (.iconst 0, 1) := by decide +kernel
theorem dX2_isOf_21 : decode cX2_isOf 21 = .ok (.ireturn, 1) := by decide +kernel
theorem dX2_addPiece_0 : decode cX2_addPiece 0 = .ok (.aload_n 0, 1) := by decide +kernel
theorem dX2_addPiece_1 : decode cX2_addPiece 1 = .ok (.getfield 12, 3) := by decide +kernel
theorem dX2_addPiece_4 : decode cX2_addPiece 4 = .ok (.new 46, 3) := by decide +kernel
theorem dX2_addPiece_7 : decode cX2_addPiece 7 = .ok (.dup, 1) := by decide +kernel
theorem dX2_addPiece_8 : decode cX2_addPiece 8 = .ok (.aload_n 1, 1) := by decide +kernel
theorem dX2_addPiece_9 : decode cX2_addPiece 9 = .ok (.iload_n 2, 1) := by decide +kernel
theorem dX2_addPiece_10 : decode cX2_addPiece 10 = .ok (.aload_n 0, 1) := by decide +kernel
theorem dX2_addPiece_11 : decode cX2_addPiece 11 = .ok (.getfield 21, 3) := by decide +kernel
theorem dX2_addPiece_14 : decode cX2_addPiece 14 = .ok (.aload_n 0, 1) := by decide +kernel
theorem dX2_addPiece_15 : decode cX2_addPiece 15 = .ok (.getfield 21, 3) := by decide +kernel
theorem dX2_addPiece_18 : decode cX2_addPiece 18 = .ok (.iload_n 3, 1) := by decide +kernel
theorem dX2_addPiece_19 : decode cX2_addPiece 19 = .ok (.iadd, 1) := by decide +kernel
theorem dX2_addPiece_20 : decode cX2_addPiece 20 = .ok (.iload 4, 2) := by decide +kernel
theorem dX2_addPiece_22 : decode cX2_addPiece 22 = .ok (.invokespecial 48, 3) := by decide +kernel
theorem dX2_addPiece_25 : decode cX2_addPiece 25 = .ok (.invokevirtual 51, 3) := by decide +kernel
theorem dX2_addPiece_28 : decode cX2_addPiece 28 = .ok (.pop, 1) := by decide +kernel
theorem dX2_addPiece_29 : decode cX2_addPiece 29 = .ok (.aload_n 0, 1) := by decide +kernel
theorem dX2_addPiece_30 : decode cX2_addPiece 30 = .ok (.dup, 1) := by decide +kernel
theorem dX2_addPiece_31 : decode cX2_addPiece 31 = .ok (.getfield 21, 3) := by decide +kernel
theorem dX2_addPiece_34 : decode cX2_addPiece 34 = .ok (.iload_n 3, 1) := by decide +kernel
theorem dX2_addPiece_35 : decode cX2_addPiece 35 = .ok (.iadd, 1) := by decide +kernel
theorem dX2_addPiece_36 : decode cX2_addPiece 36 = .ok (.putfield 21, 3) := by decide +kernel
theorem dX2_addPiece_39 : decode cX2_addPiece 39 = .ok (.return_, 1) := by decide +kernel
theorem dX2_addRange_0 : decode cX2_addRange 0 = .ok (.aload_n 0, 1) := by decide +kernel
theorem dX2_addRange_1 : decode cX2_addRange 1 = .ok (.dup, 1) := by decide +kernel
theorem dX2_addRange_2 : decode cX2_addRange 2 = .ok (.getfield 25, 3) := by decide +kernel
theorem dX2_addRange_5 : decode cX2_addRange 5 = .ok (.iload_n 2, 1) := by decide +kernel
theorem dX2_addRange_6 : decode cX2_addRange 6 = .ok (.iload_n 1, 1) := by decide +kernel
theorem dX2_addRange_7 : decode cX2_addRange 7 = .ok (.isub, 1) := by decide +kernel
theorem dX2_addRange_8 : decode cX2_addRange 8 = .ok (.aload_n 0, 1) := by decide +kernel
theorem dX2_addRange_9 : decode cX2_addRange 9 = .ok (.iload_n 1, 1) := by decide +kernel
theorem dX2_addRange_10 : decode cX2_addRange 10 = .ok (.iload_n 2, 1) := by decide +kernel
theorem dX2_addRange_11 : decode cX2_addRange 11 = .ok (.invokevirtual 55, 3) := by decide +kernel
theorem dX2_addRange_14 : decode cX2_addRange 14 = .ok (.isub, 1) := by decide +kernel
theorem dX2_addRange_15 : decode cX2_addRange 15 = .ok (.iadd, 1) := by decide +kernel
theorem dX2_addRange_16 : decode cX2_addRange 16 = .ok (.putfield 25, 3) := by decide +kernel
theorem dX2_addRange_19 : decode cX2_addRange 19 = .ok (.aload_n 0, 1) := by decide +kernel
theorem dX2_addRange_20 : decode cX2_addRange 20 = .ok (.getfield 18, 3) := by decide +kernel
theorem dX2_addRange_23 : decode cX2_addRange 23 = .ok (.new 59, 3) := by decide +kernel
theorem dX2_addRange_26 : decode cX2_addRange 26 = .ok (.dup, 1) := by decide +kernel
theorem dX2_addRange_27 : decode cX2_addRange 27 = .ok (.iload_n 1, 1) := by decide +kernel
theorem dX2_addRange_28 : decode cX2_addRange 28 = .ok (.iload_n 2, 1) := by decide +kernel
theorem dX2_addRange_29 : decode cX2_addRange 29 = .ok (.invokespecial 61, 3) := by decide +kernel
theorem dX2_addRange_32 : decode cX2_addRange 32 = .ok (.invokevirtual 51, 3) := by decide +kernel
theorem dX2_addRange_35 : decode cX2_addRange 35 = .ok (.pop, 1) := by decide +kernel
theorem dX2_addRange_36 : decode cX2_addRange 36 = .ok (.return_, 1) := by decide +kernel
theorem dX2_loadedIn_0 : decode cX2_loadedIn 0 = .ok (.iconst 0, 1) := by decide +kernel
theorem dX2_loadedIn_1 : decode cX2_loadedIn 1 = .ok (.istore_n 3, 1) := by decide +kernel
theorem dX2_loadedIn_2 : decode cX2_loadedIn 2 = .ok (.iload_n 1, 1) := by decide +kernel
theorem dX2_loadedIn_3 : decode cX2_loadedIn 3 = .ok (.istore 4, 2) := by decide +kernel
theorem dX2_loadedIn_5 : decode cX2_loadedIn 5 = .ok (.iload_n 1, 1) := by decide +kernel
theorem dX2_loadedIn_6 : decode cX2_loadedIn 6 = .ok (.istore 5, 2) := by decide +kernel
theorem dX2_loadedIn_8 : decode cX2_loadedIn 8 = .ok (.iload 5, 2) := by decide +kernel
theorem dX2_loadedIn_10 : decode cX2_loadedIn 10 = .ok (.iload_n 2, 1) := by decide +kernel
theorem dX2_loadedIn_11 : decode cX2_loadedIn 11 = .ok (.if_icmp .ge 58, 3) := by decide +kernel
theorem dX2_loadedIn_14 : decode cX2_loadedIn 14 = .ok (.iload_n 2, 1) := by decide +kernel
theorem dX2_loadedIn_15 : decode cX2_loadedIn 15 = .ok (.aload_n 0, 1) := by decide +kernel
theorem dX2_loadedIn_16 : decode cX2_loadedIn 16 = .ok (.iload 5, 2) := by decide +kernel
theorem dX2_loadedIn_18 : decode cX2_loadedIn 18 = .ok (.invokevirtual 64, 3) := by decide +kernel
theorem dX2_loadedIn_21 : decode cX2_loadedIn 21 = .ok (.invokestatic 68, 3) := by decide +kernel
theorem dX2_loadedIn_24 : decode cX2_loadedIn 24 = .ok (.istore 6, 2) := by decide +kernel
theorem dX2_loadedIn_26 : decode cX2_loadedIn 26 = .ok (.iload_n 3, 1) := by decide +kernel
theorem dX2_loadedIn_27 : decode cX2_loadedIn 27 = .ok (.iload 6, 2) := by decide +kernel
theorem dX2_loadedIn_29 : decode cX2_loadedIn 29 = .ok (.iload 5, 2) := by decide +kernel
theorem dX2_loadedIn_31 : decode cX2_loadedIn 31 = .ok (.isub, 1) := by decide +kernel
theorem dX2_loadedIn_32 : decode cX2_loadedIn 32 = .ok (.iadd, 1) := by decide +kernel
theorem dX2_loadedIn_33 : decode cX2_loadedIn 33 = .ok (.istore_n 3, 1) := by decide +kernel
theorem dX2_loadedIn_34 : decode cX2_loadedIn 34 = .ok (.iload 6, 2) := by decide +kernel
theorem dX2_loadedIn_36 : decode cX2_loadedIn 36 = .ok (.iload 5, 2) := by decide +kernel
theorem dX2_loadedIn_38 : decode cX2_loadedIn 38 = .ok (.if_icmp .le 8, 3) := by decide +kernel
theorem dX2_loadedIn_41 : decode cX2_loadedIn 41 = .ok (.iload 6, 2) := by decide +kernel
theorem dX2_loadedIn_43 : decode cX2_loadedIn 43 = .ok (.goto 10, 3) := by decide +kernel
theorem dX2_loadedIn_46 : decode cX2_loadedIn 46 = .ok (.aload_n 0, 1) := by decide +kernel
theorem dX2_loadedIn_47 : decode cX2_loadedIn 47 = .ok (.iload 5, 2) := by decide +kernel
theorem dX2_loadedIn_49 : decode cX2_loadedIn 49 = .ok (.iload_n 2, 1) := by decide +kernel
theorem dX2_loadedIn_50 : decode cX2_loadedIn 50 = .ok (.invokevirtual 73, 3) := by decide +kernel
theorem dX2_loadedIn_53 : decode cX2_loadedIn 53 = .ok (.istore 4, 2) := by decide +kernel
theorem dX2_loadedIn_55 : decode cX2_loadedIn 55 = .ok (.iload 5, 2) := by decide +kernel
theorem dX2_loadedIn_57 : decode cX2_loadedIn 57 = .ok (.iconst 1, 1) := by decide +kernel
theorem dX2_loadedIn_58 : decode cX2_loadedIn 58 = .ok (.iadd, 1) := by decide +kernel
theorem dX2_loadedIn_59 : decode cX2_loadedIn 59 = .ok (.iload 4, 2) := by decide +kernel
theorem dX2_loadedIn_61 : decode cX2_loadedIn 61 = .ok (.invokestatic 76, 3) := by decide +kernel
theorem dX2_loadedIn_64 : decode cX2_loadedIn 64 = .ok (.istore 5, 2) := by decide +kernel
theorem dX2_loadedIn_66 : decode cX2_loadedIn 66 = .ok (.goto (-58), 3) := by decide +kernel
theorem dX2_loadedIn_69 : decode cX2_loadedIn 69 = .ok (.iload_n 3, 1) := by decide +kernel
theorem dX2_loadedIn_70 : decode cX2_loadedIn 70 = .ok (.ireturn, 1) := by decide +kernel
theorem dX2_loadedUntil_0 : decode cX2_loadedUntil 0 = .ok (.iload_n 1, 1) := by decide +kernel
theorem dX2_loadedUntil_1 : decode cX2_loadedUntil 1 = .ok (.istore_n 2, 1) := by decide +kernel
theorem dX2_loadedUntil_2 : decode cX2_loadedUntil 2 = .ok (.iconst 0, 1) := by decide +kernel
theorem dX2_loadedUntil_3 : decode cX2_loadedUntil 3 = .ok (.istore_n 3, 1) := by decide +kernel
theorem dX2_loadedUntil_4 : decode cX2_loadedUntil 4 = .ok (.iload_n 3, 1) := by decide +kernel
theorem dX2_loadedUntil_5 : decode cX2_loadedUntil 5 = .ok (.aload_n 0, 1) := by decide +kernel
theorem dX2_loadedUntil_6 : decode cX2_loadedUntil 6 = .ok (.getfield 18, 3) := by decide +kernel
theorem dX2_loadedUntil_9 : decode cX2_loadedUntil 9 = .ok (.invokevirtual 79, 3) := by decide +kernel
theorem dX2_loadedUntil_12 : decode cX2_loadedUntil 12 = .ok (.if_icmp .ge 46, 3) := by decide +kernel
theorem dX2_loadedUntil_15 : decode cX2_loadedUntil 15 = .ok (.aload_n 0, 1) := by decide +kernel
theorem dX2_loadedUntil_16 : decode cX2_loadedUntil 16 = .ok (.getfield 18, 3) := by decide +kernel
theorem dX2_loadedUntil_19 : decode cX2_loadedUntil 19 = .ok (.iload_n 3, 1) := by decide +kernel
theorem dX2_loadedUntil_20 : decode cX2_loadedUntil 20 = .ok (.invokevirtual 83, 3) := by decide +kernel
theorem dX2_loadedUntil_23 : decode cX2_loadedUntil 23 = .ok (.checkcast 59, 3) := by decide +kernel
theorem dX2_loadedUntil_26 : decode cX2_loadedUntil 26 = .ok (.astore 4, 2) := by decide +kernel
theorem dX2_loadedUntil_28 : decode cX2_loadedUntil 28 = .ok (.aload 4, 2) := by decide +kernel
theorem dX2_loadedUntil_30 : decode cX2_loadedUntil 30 = .ok (.getfield 87, 3) := by decide +kernel
theorem dX2_loadedUntil_33 : decode cX2_loadedUntil 33 = .ok (.iload_n 1, 1) := by decide +kernel
theorem dX2_loadedUntil_34 : decode cX2_loadedUntil 34 = .ok (.if_icmp .gt 18, 3) := by decide +kernel
theorem dX2_loadedUntil_37 : decode cX2_loadedUntil 37 = .ok (.aload 4, 2) := by decide +kernel
theorem dX2_loadedUntil_39 : decode cX2_loadedUntil 39 = .ok (.getfield 90, 3) := by decide +kernel
theorem dX2_loadedUntil_42 : decode cX2_loadedUntil 42 = .ok (.iload_n 2, 1) := by decide +kernel
theorem dX2_loadedUntil_43 : decode cX2_loadedUntil 43 = .ok (.if_icmp .le 9, 3) := by decide +kernel
theorem dX2_loadedUntil_46 : decode cX2_loadedUntil 46 = .ok (.aload 4, 2) := by decide +kernel
theorem dX2_loadedUntil_48 : decode cX2_loadedUntil 48 = .ok (.getfield 90, 3) := by decide +kernel
theorem dX2_loadedUntil_51 : decode cX2_loadedUntil 51 = .ok (.istore_n 2, 1) := by decide +kernel
theorem dX2_loadedUntil_52 : decode cX2_loadedUntil 52 = .ok (.iinc 3 1, 3) := by decide +kernel
theorem dX2_loadedUntil_55 : decode cX2_loadedUntil 55 = .ok (.goto (-51), 3) := by decide +kernel
theorem dX2_loadedUntil_58 : decode cX2_loadedUntil 58 = .ok (.iload_n 2, 1) := by decide +kernel
theorem dX2_loadedUntil_59 : decode cX2_loadedUntil 59 = .ok (.ireturn, 1) := by decide +kernel
theorem dX2_nextRangeBehind_0 : decode cX2_nextRangeBehind 0 = .ok (.iload_n 2, 1) := by decide +kernel
theorem dX2_nextRangeBehind_1 : decode cX2_nextRangeBehind 1 = .ok (.istore_n 3, 1) := by decide +kernel
theorem dX2_nextRangeBehind_2 : decode cX2_nextRangeBehind 2 = .ok (.iconst 0, 1) := by decide +kernel
theorem dX2_nextRangeBehind_3 : decode cX2_nextRangeBehind 3 = .ok (.istore 4, 2) := by decide +kernel
theorem dX2_nextRangeBehind_5 : decode cX2_nextRangeBehind 5 = .ok (.iload 4, 2) := by decide +kernel
theorem dX2_nextRangeBehind_7 : decode cX2_nextRangeBehind 7 = .ok (.aload_n 0, 1) := by decide +kernel
theorem dX2_nextRangeBehind_8 : decode cX2_nextRangeBehind 8 = .ok (.getfield 18, 3) := by decide +kernel
theorem dX2_nextRangeBehind_11 : decode cX2_nextRangeBehind 11 = .ok (.invokevirtual 79, 3) := by decide +kernel
theorem dX2_nextRangeBehind_14 : decode cX2_nextRangeBehind 14 = .ok (.if_icmp .ge 41, 3) := by decide +kernel
theorem dX2_nextRangeBehind_17 : decode cX2_nextRangeBehind 17 = .ok (.aload_n 0, 1) := by decide +kernel
theorem dX2_nextRangeBehind_18 : decode cX2_nextRangeBehind 18 = .ok (.getfield 18, 3) := by decide +kernel
theorem dX2_nextRangeBehind_21 : decode cX2_nextRangeBehind 21 = .ok (.iload 4, 2) := by decide +kernel
theorem dX2_nextRangeBehind_23 : decode cX2_nextRangeBehind 23 = .ok (.invokevirtual 83, 3) := by decide +kernel
theorem dX2_nextRangeBehind_26 : decode cX2_nextRangeBehind 26 = .ok (.checkcast 59, 3) := by decide +kernel
theorem dX2_nextRangeBehind_29 : decode cX2_nextRangeBehind 29 = .ok (.getfield 87, 3) := by decide +kernel
theorem dX2_nextRangeBehind_32 : decode cX2_nextRangeBehind 32 = .ok (.istore 5, 2) := by decide +kernel
theorem dX2_nextRangeBehind_34 : decode cX2_nextRangeBehind 34 = .ok (.iload 5, 2) := by decide +kernel
theorem dX2_nextRangeBehind_36 : decode cX2_nextRangeBehind 36 = .ok (.iload_n 1, 1) := by decide +kernel
theorem dX2_nextRangeBehind_37 : decode cX2_nextRangeBehind 37 = .ok (.if_icmp .le 12, 3) := by decide +kernel
theorem dX2_nextRangeBehind_40 : decode cX2_nextRangeBehind 40 = .ok (.iload 5, 2) := by decide +kernel
theorem dX2_nextRangeBehind_42 : decode cX2_nextRangeBehind 42 = .ok (.iload_n 3, 1) := by decide +kernel
theorem dX2_nextRangeBehind_43 : decode cX2_nextRangeBehind 43 = .ok (.if_icmp .ge 6, 3) := by decide +kernel
theorem dX2_nextRangeBehind_46 : decode cX2_nextRangeBehind 46 = .ok (.iload 5, 2) := by decide +kernel
theorem dX2_nextRangeBehind_48 : decode cX2_nextRangeBehind 48 = .ok (.istore_n 3, 1) := by decide +kernel
theorem dX2_nextRangeBehind_49 : decode cX2_nextRangeBehind 49 = .ok (.iinc 4 1, 3) := by decide +kernel
theorem dX2_nextRangeBehind_52 : decode cX2_nextRangeBehind 52 = .ok (.goto (-47), 3) := by decide +kernel
theorem dX2_nextRangeBehind_55 : decode cX2_nextRangeBehind 55 = .ok (.iload_n 3, 1) := by decide +kernel
theorem dX2_nextRangeBehind_56 : decode cX2_nextRangeBehind 56 = .ok (.ireturn, 1) := by decide +kernel
theorem dX2_lastLoadedIn_0 : decode cX2_lastLoadedIn 0 = .ok (.iconst (-1), 1) := by decide +kernel
theorem dX2_lastLoadedIn_1 : decode cX2_lastLoadedIn 1 = .ok (.istore_n 3, 1) := by decide +kernel
theorem dX2_lastLoadedIn_2 : decode cX2_lastLoadedIn 2 = .ok (.iconst 0, 1) := by decide +kernel
theorem dX2_lastLoadedIn_3 : decode cX2_lastLoadedIn 3 = .ok (.istore 4, 2) := by decide +kernel
theorem dX2_lastLoadedIn_5 : decode cX2_lastLoadedIn 5 = .ok (.iload 4, 2) := by decide +kernel
theorem dX2_lastLoadedIn_7 : decode cX2_lastLoadedIn 7 = .ok (.aload_n 0, 1) := by decide +kernel
theorem dX2_lastLoadedIn_8 : decode cX2_lastLoadedIn 8 = .ok (.getfield 18, 3) := by decide +kernel
theorem dX2_lastLoadedIn_11 : decode cX2_lastLoadedIn 11 = .ok (.invokevirtual 79, 3) := by decide +kernel
theorem dX2_lastLoadedIn_14 : decode cX2_lastLoadedIn 14 = .ok (.if_icmp .ge 57, 3) := by decide +kernel
theorem dX2_lastLoadedIn_17 : decode cX2_lastLoadedIn 17 = .ok (.aload_n 0, 1) := by decide +kernel
theorem dX2_lastLoadedIn_18 : decode cX2_lastLoadedIn 18 = .ok (.getfield 18, 3) := by decide +kernel
theorem dX2_lastLoadedIn_21 : decode cX2_lastLoadedIn 21 = .ok (.iload 4, 2) := by decide +kernel
theorem dX2_lastLoadedIn_23 : decode cX2_lastLoadedIn 23 = .ok (.invokevirtual 83, 3) := by decide +kernel
theorem dX2_lastLoadedIn_26 : decode cX2_lastLoadedIn 26 = .ok (.checkcast 59, 3) := by decide +kernel
theorem dX2_lastLoadedIn_29 : decode cX2_lastLoadedIn 29 = .ok (.astore 5, 2) := by decide +kernel
theorem dX2_lastLoadedIn_31 : decode cX2_lastLoadedIn 31 = .ok (.iload_n 2, 1) := by decide +kernel
theorem dX2_lastLoadedIn_32 : decode cX2_lastLoadedIn 32 = .ok (.aload 5, 2) := by decide +kernel
theorem dX2_lastLoadedIn_34 : decode cX2_lastLoadedIn 34 = .ok (.getfield 90, 3) := by decide +kernel
theorem dX2_lastLoadedIn_37 : decode cX2_lastLoadedIn 37 = .ok (.invokestatic 68, 3) := by decide +kernel
theorem dX2_lastLoadedIn_40 : decode cX2_lastLoadedIn 40 = .ok (.istore 6, 2) := by decide +kernel
theorem dX2_lastLoadedIn_42 : decode cX2_lastLoadedIn 42 = .ok (.iload 6, 2) := by decide +kernel
theorem dX2_lastLoadedIn_44 : decode cX2_lastLoadedIn 44 = .ok (.iload_n 1, 1) := by decide +kernel
theorem dX2_lastLoadedIn_45 : decode cX2_lastLoadedIn 45 = .ok (.aload 5, 2) := by decide +kernel
theorem dX2_lastLoadedIn_47 : decode cX2_lastLoadedIn 47 = .ok (.getfield 87, 3) := by decide +kernel
theorem dX2_lastLoadedIn_50 : decode cX2_lastLoadedIn 50 = .ok (.invokestatic 76, 3) := by decide +kernel
theorem dX2_lastLoadedIn_53 : decode cX2_lastLoadedIn 53 = .ok (.if_icmp .le 12, 3) := by decide +kernel
theorem dX2_lastLoadedIn_56 : decode cX2_lastLoadedIn 56 = .ok (.iload_n 3, 1) := by decide +kernel
theorem dX2_lastLoadedIn_57 : decode cX2_lastLoadedIn 57 = .ok (.iload 6, 2) := by decide +kernel
theorem dX2_lastLoadedIn_59 : decode cX2_lastLoadedIn 59 = .ok (.iconst 1, 1) := by decide +kernel
theorem dX2_lastLoadedIn_60 : decode cX2_lastLoadedIn 60 = .ok (.isub, 1) := by decide +kernel
theorem dX2_lastLoadedIn_61 : decode cX2_lastLoadedIn 61 = .ok (.invokestatic 76, 3) := by decide +kernel
theorem dX2_lastLoadedIn_64 : decode cX2_lastLoadedIn 64 = .ok (.istore_n 3, 1) := by decide +kernel
theorem dX2_lastLoadedIn_65 : decode cX2_lastLoadedIn 65 = .ok (.iinc 4 1, 3) := by decide +kernel
theorem dX2_lastLoadedIn_68 : decode cX2_lastLoadedIn 68 = .ok (.goto (-63), 3) := by decide +kernel
theorem dX2_lastLoadedIn_71 : decode cX2_lastLoadedIn 71 = .ok (.iload_n 3, 1) := by decide +kernel
theorem dX2_lastLoadedIn_72 : decode cX2_lastLoadedIn 72 = .ok (.ireturn, 1) := by decide +kernel
theorem dX2_isLoadedEnough_0 : decode cX2_isLoadedEnough 0 = .ok (.aload_n 0, 1) := by decide +kernel
theorem dX2_isLoadedEnough_1 : decode cX2_isLoadedEnough 1 = .ok (.getfield 25, 3) := by decide +kernel
theorem dX2_isLoadedEnough_4 : decode cX2_isLoadedEnough 4 = .ok (.ifCond .le 23, 3) := by decide +kernel
theorem dX2_isLoadedEnough_7 : decode cX2_isLoadedEnough 7 = .ok (.aload_n 0, 1) := by decide +kernel
theorem dX2_isLoadedEnough_8 : decode cX2_isLoadedEnough 8 = .ok (.getfield 25, 3) := by decide +kernel
theorem dX2_isLoadedEnough_11 : decode cX2_isLoadedEnough 11 = .ok (.bipush 60, 2) := by decide +kernel
theorem dX2_isLoadedEnough_13 : decode cX2_isLoadedEnough 13 = .ok (.aload_n 0, 1) := by decide +kernel
theorem dX2_isLoadedEnough_14 : decode cX2_isLoadedEnough 14 = .ok (.getfield 21, 3) := by decide +kernel
theorem dX2_isLoadedEnough_17 : decode cX2_isLoadedEnough 17 = .ok (.invokestatic 68, 3) := by decide +kernel
theorem dX2_isLoadedEnough_20 : decode cX2_isLoadedEnough 20 = .ok (.if_icmp .lt 7, 3) := by decide +kernel
theorem dX2_isLoadedEnough_23 : decode cX2_isLoadedEnough 23 = .ok (.iconst 1, 1) := by decide +kernel
theorem dX2_isLoadedEnough_24 : decode cX2_isLoadedEnough 24 = .ok (.goto 4, 3) := by decide +kernel
theorem dX2_isLoadedEnough_27 : decode cX2_isLoadedEnough 27 = .ok (.iconst 0, 1) := by decide +kernel
theorem dX2_isLoadedEnough_28 : decode cX2_isLoadedEnough 28 = .ok (.ireturn, 1) := by decide +kernel
theorem dX2_hasWholeAd_0 : decode cX2_hasWholeAd 0 = .ok (.iconst 0, 1) := by decide +kernel
theorem dX2_hasWholeAd_1 : decode cX2_hasWholeAd 1 = .ok (.istore_n 2, 1) := by decide +kernel
theorem dX2_hasWholeAd_2 : decode cX2_hasWholeAd 2 = .ok (.iload_n 2, 1) := by decide +kernel
theorem dX2_hasWholeAd_3 : decode cX2_hasWholeAd 3 = .ok (.aload_n 0, 1) := by decide +kernel
theorem dX2_hasWholeAd_4 : decode cX2_hasWholeAd 4 = .ok (.getfield 12, 3) := by decide +kernel
theorem dX2_hasWholeAd_7 : decode cX2_hasWholeAd 7 = .ok (.invokevirtual 79, 3) := by decide +kernel
theorem dX2_hasWholeAd_10 : decode cX2_hasWholeAd 10 = .ok (.if_icmp .ge 59, 3) := by decide +kernel
theorem dX2_hasWholeAd_13 : decode cX2_hasWholeAd 13 = .ok (.aload_n 0, 1) := by decide +kernel
theorem dX2_hasWholeAd_14 : decode cX2_hasWholeAd 14 = .ok (.getfield 12, 3) := by decide +kernel
theorem dX2_hasWholeAd_17 : decode cX2_hasWholeAd 17 = .ok (.iload_n 2, 1) := by decide +kernel
theorem dX2_hasWholeAd_18 : decode cX2_hasWholeAd 18 = .ok (.invokevirtual 83, 3) := by decide +kernel
theorem dX2_hasWholeAd_21 : decode cX2_hasWholeAd 21 = .ok (.checkcast 46, 3) := by decide +kernel
theorem dX2_hasWholeAd_24 : decode cX2_hasWholeAd 24 = .ok (.astore_n 3, 1) := by decide +kernel
theorem dX2_hasWholeAd_25 : decode cX2_hasWholeAd 25 = .ok (.aload_n 3, 1) := by decide +kernel
theorem dX2_hasWholeAd_26 : decode cX2_hasWholeAd 26 = .ok (.getfield 93, 3) := by decide +kernel
theorem dX2_hasWholeAd_29 : decode cX2_hasWholeAd 29 = .ok (.iload_n 1, 1) := by decide +kernel
theorem dX2_hasWholeAd_30 : decode cX2_hasWholeAd 30 = .ok (.if_icmp .ne 33, 3) := by decide +kernel
theorem dX2_hasWholeAd_33 : decode cX2_hasWholeAd 33 = .ok (.aload_n 0, 1) := by decide +kernel
theorem dX2_hasWholeAd_34 : decode cX2_hasWholeAd 34 = .ok (.aload_n 3, 1) := by decide +kernel
theorem dX2_hasWholeAd_35 : decode cX2_hasWholeAd 35 = .ok (.getfield 96, 3) := by decide +kernel
theorem dX2_hasWholeAd_38 : decode cX2_hasWholeAd 38 = .ok (.aload_n 3, 1) := by decide +kernel
theorem dX2_hasWholeAd_39 : decode cX2_hasWholeAd 39 = .ok (.getfield 99, 3) := by decide +kernel
theorem dX2_hasWholeAd_42 : decode cX2_hasWholeAd 42 = .ok (.invokevirtual 55, 3) := by decide +kernel
theorem dX2_hasWholeAd_45 : decode cX2_hasWholeAd 45 = .ok (.aload_n 3, 1) := by decide +kernel
theorem dX2_hasWholeAd_46 : decode cX2_hasWholeAd 46 = .ok (.getfield 99, 3) := by decide +kernel
theorem dX2_hasWholeAd_49 : decode cX2_hasWholeAd 49 = .ok (.aload_n 3, 1) := by decide +kernel
theorem dX2_hasWholeAd_50 : decode cX2_hasWholeAd 50 = .ok (.getfield 96, 3) := by decide +kernel
theorem dX2_hasWholeAd_53 : decode cX2_hasWholeAd 53 = .ok (.isub, 1) := by decide +kernel
theorem dX2_hasWholeAd_54 : decode cX2_hasWholeAd 54 = .ok (.if_icmp .ne 7, 3) := by decide +kernel
theorem dX2_hasWholeAd_57 : decode cX2_hasWholeAd 57 = .ok (.iconst 1, 1) := by decide +kernel
theorem dX2_hasWholeAd_58 : decode cX2_hasWholeAd 58 = .ok (.goto 4, 3) := by decide +kernel
theorem dX2_hasWholeAd_61 : decode cX2_hasWholeAd 61 = .ok (.iconst 0, 1) := by decide +kernel
theorem dX2_hasWholeAd_62 : decode cX2_hasWholeAd 62 = .ok (.ireturn, 1) := by decide +kernel
theorem dX2_hasWholeAd_63 : decode cX2_hasWholeAd 63 = .ok (.iinc 2 1, 3) := by decide +kernel
theorem dX2_hasWholeAd_66 : decode cX2_hasWholeAd 66 = .ok (.goto (-64), 3) := by decide +kernel
theorem dX2_hasWholeAd_69 : decode cX2_hasWholeAd 69 = .ok (.iconst 0, 1) := by decide +kernel
theorem dX2_hasWholeAd_70 : decode cX2_hasWholeAd 70 = .ok (.ireturn, 1) := by decide +kernel
theorem dX2_hasLoadedUntoldCut_0 : decode cX2_hasLoadedUntoldCut 0 = .ok (.iconst 0, 1) := by decide +kernel
theorem dX2_hasLoadedUntoldCut_1 : decode cX2_hasLoadedUntoldCut 1 = .ok (.istore_n 1, 1) := by decide +kernel
theorem dX2_hasLoadedUntoldCut_2 : decode cX2_hasLoadedUntoldCut 2 = .ok (.iload_n 1, 1) := by decide +kernel
theorem dX2_hasLoadedUntoldCut_3 : decode cX2_hasLoadedUntoldCut 3 = .ok (.aload_n 0, 1) := by decide +kernel
theorem dX2_hasLoadedUntoldCut_4 : decode cX2_hasLoadedUntoldCut 4 = .ok (.getfield 12, 3) := by decide +kernel
theorem dX2_hasLoadedUntoldCut_7 : decode cX2_hasLoadedUntoldCut 7 = .ok (.invokevirtual 79, 3) := by decide +kernel
theorem dX2_hasLoadedUntoldCut_10 : decode cX2_hasLoadedUntoldCut 10 = .ok (.if_icmp .ge 73, 3) := by decide +kernel
theorem dX2_hasLoadedUntoldCut_13 : decode cX2_hasLoadedUntoldCut 13 = .ok (.aload_n 0, 1) := by decide +kernel
theorem dX2_hasLoadedUntoldCut_14 : decode cX2_hasLoadedUntoldCut 14 = .ok (.getfield 12, 3) := by decide +kernel
theorem dX2_hasLoadedUntoldCut_17 : decode cX2_hasLoadedUntoldCut 17 = .ok (.iload_n 1, 1) := by decide +kernel
theorem dX2_hasLoadedUntoldCut_18 : decode cX2_hasLoadedUntoldCut 18 = .ok (.invokevirtual 83, 3) := by decide +kernel
theorem dX2_hasLoadedUntoldCut_21 : decode cX2_hasLoadedUntoldCut 21 = .ok (.checkcast 46, 3) := by decide +kernel
theorem dX2_hasLoadedUntoldCut_24 : decode cX2_hasLoadedUntoldCut 24 = .ok (.astore_n 2, 1) := by decide +kernel
theorem dX2_hasLoadedUntoldCut_25 : decode cX2_hasLoadedUntoldCut 25 = .ok (.aload_n 2, 1) := by decide +kernel
theorem dX2_hasLoadedUntoldCut_26 : decode cX2_hasLoadedUntoldCut 26 = .ok (.getfield 102, 3) := by decide +kernel
theorem dX2_hasLoadedUntoldCut_29 : decode cX2_hasLoadedUntoldCut 29 = .ok (.astore_n 3, 1) := by decide +kernel
theorem dX2_hasLoadedUntoldCut_30 : decode cX2_hasLoadedUntoldCut 30 = .ok (.aload_n 3, 1) := by decide +kernel
theorem dX2_hasLoadedUntoldCut_31 : decode cX2_hasLoadedUntoldCut 31 = .ok (.getfield 106, 3) := by decide +kernel
theorem dX2_hasLoadedUntoldCut_34 : decode cX2_hasLoadedUntoldCut 34 = .ok (.iconst 2, 1) := by decide +kernel
theorem dX2_hasLoadedUntoldCut_35 : decode cX2_hasLoadedUntoldCut 35 = .ok (.if_icmp .eq 42, 3) := by decide +kernel
theorem dX2_hasLoadedUntoldCut_38 : decode cX2_hasLoadedUntoldCut 38 = .ok (.aload_n 3, 1) := by decide +kernel
theorem dX2_hasLoadedUntoldCut_39 : decode cX2_hasLoadedUntoldCut 39 = .ok (.getfield 111, 3) := by decide +kernel
theorem dX2_hasLoadedUntoldCut_42 : decode cX2_hasLoadedUntoldCut 42 = .ok (.ifCond .eq 35, 3) := by decide +kernel
theorem dX2_hasLoadedUntoldCut_45 : decode cX2_hasLoadedUntoldCut 45 = .ok (.aload_n 3, 1) := by decide +kernel
theorem dX2_hasLoadedUntoldCut_46 : decode cX2_hasLoadedUntoldCut 46 = .ok (.getfield 115, 3) := by decide +kernel
theorem dX2_hasLoadedUntoldCut_49 : decode cX2_hasLoadedUntoldCut 49 = .ok (.aload_n 0, 1) := by decide +kernel
theorem dX2_hasLoadedUntoldCut_50 : decode cX2_hasLoadedUntoldCut 50 = .ok (.getfield 37, 3) := by decide +kernel
theorem dX2_hasLoadedUntoldCut_53 : decode cX2_hasLoadedUntoldCut 53 = .ok (.invokestatic 118, 3) := by decide +kernel
theorem dX2_hasLoadedUntoldCut_56 : decode cX2_hasLoadedUntoldCut 56 = .ok (.ifCond .ne 21, 3) := by decide +kernel
theorem dX2_hasLoadedUntoldCut_59 : decode cX2_hasLoadedUntoldCut 59 = .ok (.aload_n 0, 1) := by decide +kernel
theorem dX2_hasLoadedUntoldCut_60 : decode cX2_hasLoadedUntoldCut 60 = .ok (.aload_n 2, 1) := by decide +kernel
theorem dX2_hasLoadedUntoldCut_61 : decode cX2_hasLoadedUntoldCut 61 = .ok (.getfield 96, 3) := by decide +kernel
theorem dX2_hasLoadedUntoldCut_64 : decode cX2_hasLoadedUntoldCut 64 = .ok (.aload_n 2, 1) := by decide +kernel
theorem dX2_hasLoadedUntoldCut_65 : decode cX2_hasLoadedUntoldCut 65 = .ok (.getfield 99, 3) := by decide +kernel
theorem dX2_hasLoadedUntoldCut_68 : decode cX2_hasLoadedUntoldCut 68 = .ok (.invokevirtual 122, 3) := by decide +kernel
theorem dX2_hasLoadedUntoldCut_71 : decode cX2_hasLoadedUntoldCut 71 = .ok (.iconst (-1), 1) := by decide +kernel
theorem dX2_hasLoadedUntoldCut_72 : decode cX2_hasLoadedUntoldCut 72 = .ok (.if_icmp .eq 5, 3) := by decide +kernel
theorem dX2_hasLoadedUntoldCut_75 : decode cX2_hasLoadedUntoldCut 75 = .ok (.iconst 1, 1) := by decide +kernel
theorem dX2_hasLoadedUntoldCut_76 : decode cX2_hasLoadedUntoldCut 76 = .ok (.ireturn, 1) := by decide +kernel
theorem dX2_hasLoadedUntoldCut_77 : decode cX2_hasLoadedUntoldCut 77 = .ok (.iinc 1 1, 3) := by decide +kernel
theorem dX2_hasLoadedUntoldCut_80 : decode cX2_hasLoadedUntoldCut 80 = .ok (.goto (-78), 3) := by decide +kernel
theorem dX2_hasLoadedUntoldCut_83 : decode cX2_hasLoadedUntoldCut 83 = .ok (.iconst 0, 1) := by decide +kernel
theorem dX2_hasLoadedUntoldCut_84 : decode cX2_hasLoadedUntoldCut 84 = .ok (.ireturn, 1) := by decide +kernel
theorem dX2_reach_0 : decode cX2_reach 0 = .ok (.iconst (-1), 1) := by decide +kernel
theorem dX2_reach_1 : decode cX2_reach 1 = .ok (.istore_n 1, 1) := by decide +kernel
theorem dX2_reach_2 : decode cX2_reach 2 = .ok (.iconst 0, 1) := by decide +kernel
theorem dX2_reach_3 : decode cX2_reach 3 = .ok (.istore_n 2, 1) := by decide +kernel
theorem dX2_reach_4 : decode cX2_reach 4 = .ok (.iload_n 2, 1) := by decide +kernel
theorem dX2_reach_5 : decode cX2_reach 5 = .ok (.aload_n 0, 1) := by decide +kernel
theorem dX2_reach_6 : decode cX2_reach 6 = .ok (.getfield 12, 3) := by decide +kernel
theorem dX2_reach_9 : decode cX2_reach 9 = .ok (.invokevirtual 79, 3) := by decide +kernel
theorem dX2_reach_12 : decode cX2_reach 12 = .ok (.if_icmp .ge 73, 3) := by decide +kernel
theorem dX2_reach_15 : decode cX2_reach 15 = .ok (.aload_n 0, 1) := by decide +kernel
theorem dX2_reach_16 : decode cX2_reach 16 = .ok (.getfield 12, 3) := by decide +kernel
theorem dX2_reach_19 : decode cX2_reach 19 = .ok (.iload_n 2, 1) := by decide +kernel
theorem dX2_reach_20 : decode cX2_reach 20 = .ok (.invokevirtual 83, 3) := by decide +kernel
theorem dX2_reach_23 : decode cX2_reach 23 = .ok (.checkcast 46, 3) := by decide +kernel
theorem dX2_reach_26 : decode cX2_reach 26 = .ok (.astore_n 3, 1) := by decide +kernel
theorem dX2_reach_27 : decode cX2_reach 27 = .ok (.aload_n 3, 1) := by decide +kernel
theorem dX2_reach_28 : decode cX2_reach 28 = .ok (.getfield 102, 3) := by decide +kernel
theorem dX2_reach_31 : decode cX2_reach 31 = .ok (.getfield 106, 3) := by decide +kernel
theorem dX2_reach_34 : decode cX2_reach 34 = .ok (.iconst 2, 1) := by decide +kernel
theorem dX2_reach_35 : decode cX2_reach 35 = .ok (.if_icmp .ne 7, 3) := by decide +kernel
theorem dX2_reach_38 : decode cX2_reach 38 = .ok (.iconst (-1), 1) := by decide +kernel
theorem dX2_reach_39 : decode cX2_reach 39 = .ok (.goto 15, 3) := by decide +kernel
theorem dX2_reach_42 : decode cX2_reach 42 = .ok (.aload_n 0, 1) := by decide +kernel
theorem dX2_reach_43 : decode cX2_reach 43 = .ok (.aload_n 3, 1) := by decide +kernel
theorem dX2_reach_44 : decode cX2_reach 44 = .ok (.getfield 96, 3) := by decide +kernel
theorem dX2_reach_47 : decode cX2_reach 47 = .ok (.aload_n 3, 1) := by decide +kernel
theorem dX2_reach_48 : decode cX2_reach 48 = .ok (.getfield 99, 3) := by decide +kernel
theorem dX2_reach_51 : decode cX2_reach 51 = .ok (.invokevirtual 122, 3) := by decide +kernel
theorem dX2_reach_54 : decode cX2_reach 54 = .ok (.istore 4, 2) := by decide +kernel
theorem dX2_reach_56 : decode cX2_reach 56 = .ok (.iload 4, 2) := by decide +kernel
theorem dX2_reach_58 : decode cX2_reach 58 = .ok (.iconst (-1), 1) := by decide +kernel
theorem dX2_reach_59 : decode cX2_reach 59 = .ok (.if_icmp .eq 20, 3) := by decide +kernel
theorem dX2_reach_62 : decode cX2_reach 62 = .ok (.aload_n 3, 1) := by decide +kernel
theorem dX2_reach_63 : decode cX2_reach 63 = .ok (.getfield 125, 3) := by decide +kernel
theorem dX2_reach_66 : decode cX2_reach 66 = .ok (.sipush 1000, 3) := by decide +kernel
theorem dX2_reach_69 : decode cX2_reach 69 = .ok (.imul, 1) := by decide +kernel
theorem dX2_reach_70 : decode cX2_reach 70 = .ok (.iload 4, 2) := by decide +kernel
theorem dX2_reach_72 : decode cX2_reach 72 = .ok (.iadd, 1) := by decide +kernel
theorem dX2_reach_73 : decode cX2_reach 73 = .ok (.aload_n 3, 1) := by decide +kernel
theorem dX2_reach_74 : decode cX2_reach 74 = .ok (.getfield 96, 3) := by decide +kernel
theorem dX2_reach_77 : decode cX2_reach 77 = .ok (.isub, 1) := by decide +kernel
theorem dX2_reach_78 : decode cX2_reach 78 = .ok (.istore_n 1, 1) := by decide +kernel
theorem dX2_reach_79 : decode cX2_reach 79 = .ok (.iinc 2 1, 3) := by decide +kernel
theorem dX2_reach_82 : decode cX2_reach 82 = .ok (.goto (-78), 3) := by decide +kernel
theorem dX2_reach_85 : decode cX2_reach 85 = .ok (.iload_n 1, 1) := by decide +kernel
theorem dX2_reach_86 : decode cX2_reach 86 = .ok (.ireturn, 1) := by decide +kernel
theorem dX2_secondBehind_0 : decode cX2_secondBehind 0 = .ok (.iconst 0, 1) := by decide +kernel
theorem dX2_secondBehind_1 : decode cX2_secondBehind 1 = .ok (.istore_n 2, 1) := by decide +kernel
theorem dX2_secondBehind_2 : decode cX2_secondBehind 2 = .ok (.iconst 0, 1) := by decide +kernel
theorem dX2_secondBehind_3 : decode cX2_secondBehind 3 = .ok (.istore_n 3, 1) := by decide +kernel
theorem dX2_secondBehind_4 : decode cX2_secondBehind 4 = .ok (.iload_n 3, 1) := by decide +kernel
theorem dX2_secondBehind_5 : decode cX2_secondBehind 5 = .ok (.aload_n 0, 1) := by decide +kernel
theorem dX2_secondBehind_6 : decode cX2_secondBehind 6 = .ok (.getfield 12, 3) := by decide +kernel
theorem dX2_secondBehind_9 : decode cX2_secondBehind 9 = .ok (.invokevirtual 79, 3) := by decide +kernel
theorem dX2_secondBehind_12 : decode cX2_secondBehind 12 = .ok (.if_icmp .ge 77, 3) := by decide +kernel
theorem dX2_secondBehind_15 : decode cX2_secondBehind 15 = .ok (.aload_n 0, 1) := by decide +kernel
theorem dX2_secondBehind_16 : decode cX2_secondBehind 16 = .ok (.getfield 12, 3) := by decide +kernel
theorem dX2_secondBehind_19 : decode cX2_secondBehind 19 = .ok (.iload_n 3, 1) := by decide +kernel
theorem dX2_secondBehind_20 : decode cX2_secondBehind 20 = .ok (.invokevirtual 83, 3) := by decide +kernel
theorem dX2_secondBehind_23 : decode cX2_secondBehind 23 = .ok (.checkcast 46, 3) := by decide +kernel
theorem dX2_secondBehind_26 : decode cX2_secondBehind 26 = .ok (.astore 4, 2) := by decide +kernel
theorem dX2_secondBehind_28 : decode cX2_secondBehind 28 = .ok (.aload 4, 2) := by decide +kernel
theorem dX2_secondBehind_30 : decode cX2_secondBehind 30 = .ok (.getfield 99, 3) := by decide +kernel
theorem dX2_secondBehind_33 : decode cX2_secondBehind 33 = .ok (.aload 4, 2) := by decide +kernel
theorem dX2_secondBehind_35 : decode cX2_secondBehind 35 = .ok (.getfield 96, 3) := by decide +kernel
theorem dX2_secondBehind_38 : decode cX2_secondBehind 38 = .ok (.isub, 1) := by decide +kernel
theorem dX2_secondBehind_39 : decode cX2_secondBehind 39 = .ok (.iload_n 1, 1) := by decide +kernel
theorem dX2_secondBehind_40 : decode cX2_secondBehind 40 = .ok (.aload 4, 2) := by decide +kernel
theorem dX2_secondBehind_42 : decode cX2_secondBehind 42 = .ok (.getfield 125, 3) := by decide +kernel
theorem dX2_secondBehind_45 : decode cX2_secondBehind 45 = .ok (.sipush 1000, 3) := by decide +kernel
theorem dX2_secondBehind_48 : decode cX2_secondBehind 48 = .ok (.imul, 1) := by decide +kernel
theorem dX2_secondBehind_49 : decode cX2_secondBehind 49 = .ok (.isub, 1) := by decide +kernel
theorem dX2_secondBehind_50 : decode cX2_secondBehind 50 = .ok (.iconst 1, 1) := by decide +kernel
theorem dX2_secondBehind_51 : decode cX2_secondBehind 51 = .ok (.iadd, 1) := by decide +kernel
theorem dX2_secondBehind_52 : decode cX2_secondBehind 52 = .ok (.invokestatic 68, 3) := by decide +kernel
theorem dX2_secondBehind_55 : decode cX2_secondBehind 55 = .ok (.istore 5, 2) := by decide +kernel
theorem dX2_secondBehind_57 : decode cX2_secondBehind 57 = .ok (.aload 4, 2) := by decide +kernel
theorem dX2_secondBehind_59 : decode cX2_secondBehind 59 = .ok (.getfield 102, 3) := by decide +kernel
theorem dX2_secondBehind_62 : decode cX2_secondBehind 62 = .ok (.getfield 106, 3) := by decide +kernel
theorem dX2_secondBehind_65 : decode cX2_secondBehind 65 = .ok (.iconst 2, 1) := by decide +kernel
theorem dX2_secondBehind_66 : decode cX2_secondBehind 66 = .ok (.if_icmp .eq 17, 3) := by decide +kernel
theorem dX2_secondBehind_69 : decode cX2_secondBehind 69 = .ok (.iload 5, 2) := by decide +kernel
theorem dX2_secondBehind_71 : decode cX2_secondBehind 71 = .ok (.ifCond .le 12, 3) := by decide +kernel
theorem dX2_secondBehind_74 : decode cX2_secondBehind 74 = .ok (.aload 4, 2) := by decide +kernel
theorem dX2_secondBehind_76 : decode cX2_secondBehind 76 = .ok (.getfield 96, 3) := by decide +kernel
theorem dX2_secondBehind_79 : decode cX2_secondBehind 79 = .ok (.iload 5, 2) := by decide +kernel
theorem dX2_secondBehind_81 : decode cX2_secondBehind 81 = .ok (.iadd, 1) := by decide +kernel
theorem dX2_secondBehind_82 : decode cX2_secondBehind 82 = .ok (.istore_n 2, 1) := by decide +kernel
theorem dX2_secondBehind_83 : decode cX2_secondBehind 83 = .ok (.iinc 3 1, 3) := by decide +kernel
theorem dX2_secondBehind_86 : decode cX2_secondBehind 86 = .ok (.goto (-82), 3) := by decide +kernel
theorem dX2_secondBehind_89 : decode cX2_secondBehind 89 = .ok (.iload_n 2, 1) := by decide +kernel
theorem dX2_secondBehind_90 : decode cX2_secondBehind 90 = .ok (.ireturn, 1) := by decide +kernel
theorem dX3_init_0 : decode cX3_init 0 = .ok (.aload_n 0, 1) := by decide +kernel
theorem dX3_init_1 : decode cX3_init 1 = .ok (.invokespecial 1, 3) := by decide +kernel
theorem dX3_init_4 : decode cX3_init 4 = .ok (.aload_n 0, 1) := by decide +kernel
theorem dX3_init_5 : decode cX3_init 5 = .ok (.iconst 0, 1) := by decide +kernel
theorem dX3_init_6 : decode cX3_init 6 = .ok (.putfield 7, 3) := by decide +kernel
theorem dX3_init_9 : decode cX3_init 9 = .ok (.aload_n 0, 1) := by decide +kernel
theorem dX3_init_10 : decode cX3_init 10 = .ok (.iload_n 1, 1) := by decide +kernel
theorem dX3_init_11 : decode cX3_init 11 = .ok (.putfield 13, 3) := by decide +kernel
theorem dX3_init_14 : decode cX3_init 14 = .ok (.aload_n 0, 1) := by decide +kernel
theorem dX3_init_15 : decode cX3_init 15 = .ok (.iload_n 2, 1) := by decide +kernel
theorem dX3_init_16 : decode cX3_init 16 = .ok (.putfield 17, 3) := by decide +kernel
theorem dX3_init_19 : decode cX3_init 19 = .ok (.aload_n 0, 1) := by decide +kernel
theorem dX3_init_20 : decode cX3_init 20 = .ok (.iload_n 3, 1) := by decide +kernel
theorem dX3_init_21 : decode cX3_init 21 = .ok (.putfield 20, 3) := by decide +kernel
theorem dX3_init_24 : decode cX3_init 24 = .ok (.aload_n 0, 1) := by decide +kernel
theorem dX3_init_25 : decode cX3_init 25 = .ok (.aload 4, 2) := by decide +kernel
theorem dX3_init_27 : decode cX3_init 27 = .ok (.putfield 23, 3) := by decide +kernel
theorem dX3_init_30 : decode cX3_init 30 = .ok (.return_, 1) := by decide +kernel
theorem dX3_partAt_0 : decode cX3_partAt 0 = .ok (.iload_n 1, 1) := by decide +kernel
theorem dX3_partAt_1 : decode cX3_partAt 1 = .ok (.ifCond .lt 14, 3) := by decide +kernel
theorem dX3_partAt_4 : decode cX3_partAt 4 = .ok (.iload_n 1, 1) := by decide +kernel
theorem dX3_partAt_5 : decode cX3_partAt 5 = .ok (.aload_n 0, 1) := by decide +kernel
theorem dX3_partAt_6 : decode cX3_partAt 6 = .ok (.getfield 23, 3) := by decide +kernel
theorem dX3_partAt_9 : decode cX3_partAt 9 = .ok (.invokevirtual 27, 3) := by decide +kernel
theorem dX3_partAt_12 : decode cX3_partAt 12 = .ok (.if_icmp .lt 13, 3) := by decide +kernel
theorem dX3_partAt_15 : decode cX3_partAt 15 = .ok (.new 33, 3) := by decide +kernel
theorem dX3_partAt_18 : decode cX3_partAt 18 = .ok (.dup, 1) := by decide +kernel
theorem dX3_partAt_19 : decode cX3_partAt 19 = .ok (.ldc 35, 2) := by decide +kernel
theorem dX3_partAt_21 : decode cX3_partAt 21 = .ok (.invokespecial 37, 3) := by decide +kernel
theorem dX3_partAt_24 : decode cX3_partAt 24 = .ok (.athrow, 1) := by decide +kernel
theorem dX3_partAt_25 : decode cX3_partAt 25 = .ok (.aload_n 0, 1) := by decide +kernel
theorem dX3_partAt_26 : decode cX3_partAt 26 = .ok (.getfield 23, 3) := by decide +kernel
theorem dX3_partAt_29 : decode cX3_partAt 29 = .ok (.iload_n 1, 1) := by decide +kernel
theorem dX3_partAt_30 : decode cX3_partAt 30 = .ok (.invokevirtual 40, 3) := by decide +kernel
theorem dX3_partAt_33 : decode cX3_partAt 33 = .ok (.checkcast 44, 3) := by decide +kernel
theorem dX3_partAt_36 : decode cX3_partAt 36 = .ok (.areturn, 1) := by decide +kernel
theorem dX3_uncutParts_0 : decode cX3_uncutParts 0 = .ok (.iconst 0, 1) := by decide +kernel
theorem dX3_uncutParts_1 : decode cX3_uncutParts 1 = .ok (.istore_n 1, 1) := by decide +kernel
theorem dX3_uncutParts_2 : decode cX3_uncutParts 2 = .ok (.iconst 0, 1) := by decide +kernel
theorem dX3_uncutParts_3 : decode cX3_uncutParts 3 = .ok (.istore_n 2, 1) := by decide +kernel
theorem dX3_uncutParts_4 : decode cX3_uncutParts 4 = .ok (.iload_n 2, 1) := by decide +kernel
theorem dX3_uncutParts_5 : decode cX3_uncutParts 5 = .ok (.aload_n 0, 1) := by decide +kernel
theorem dX3_uncutParts_6 : decode cX3_uncutParts 6 = .ok (.getfield 23, 3) := by decide +kernel
theorem dX3_uncutParts_9 : decode cX3_uncutParts 9 = .ok (.invokevirtual 27, 3) := by decide +kernel
theorem dX3_uncutParts_12 : decode cX3_uncutParts 12 = .ok (.if_icmp .ge 29, 3) := by decide +kernel
theorem dX3_uncutParts_15 : decode cX3_uncutParts 15 = .ok (.aload_n 0, 1) := by decide +kernel
theorem dX3_uncutParts_16 : decode cX3_uncutParts 16 = .ok (.getfield 23, 3) := by decide +kernel
theorem dX3_uncutParts_19 : decode cX3_uncutParts 19 = .ok (.iload_n 2, 1) := by decide +kernel
theorem dX3_uncutParts_20 : decode cX3_uncutParts 20 = .ok (.invokevirtual 40, 3) := by decide +kernel
theorem dX3_uncutParts_23 : decode cX3_uncutParts 23 = .ok (.checkcast 44, 3) := by decide +kernel
theorem dX3_uncutParts_26 : decode cX3_uncutParts 26 = .ok (.getfield 46, 3) := by decide +kernel
theorem dX3_uncutParts_29 : decode cX3_uncutParts 29 = .ok (.ifCond .ne 6, 3) := by decide +kernel
theorem dX3_uncutParts_32 : decode cX3_uncutParts 32 = .ok (.iinc 1 1, 3) := by decide +kernel
theorem dX3_uncutParts_35 : decode cX3_uncutParts 35 = .ok (.iinc 2 1, 3) := by decide +kernel
theorem dX3_uncutParts_38 : decode cX3_uncutParts 38 = .ok (.goto (-34), 3) := by decide +kernel
theorem dX3_uncutParts_41 : decode cX3_uncutParts 41 = .ok (.iload_n 1, 1) := by decide +kernel
theorem dX3_uncutParts_42 : decode cX3_uncutParts 42 = .ok (.ireturn, 1) := by decide +kernel
theorem dX3_uncutSeconds_0 : decode cX3_uncutSeconds 0 = .ok (.iconst 0, 1) := by decide +kernel
theorem dX3_uncutSeconds_1 : decode cX3_uncutSeconds 1 = .ok (.istore_n 1, 1) := by decide +kernel
theorem dX3_uncutSeconds_2 : decode cX3_uncutSeconds 2 = .ok (.iconst 0, 1) := by decide +kernel
theorem dX3_uncutSeconds_3 : decode cX3_uncutSeconds 3 = .ok (.istore_n 2, 1) := by decide +kernel
theorem dX3_uncutSeconds_4 : decode cX3_uncutSeconds 4 = .ok (.iload_n 2, 1) := by decide +kernel
theorem dX3_uncutSeconds_5 : decode cX3_uncutSeconds 5 = .ok (.aload_n 0, 1) := by decide +kernel
theorem dX3_uncutSeconds_6 : decode cX3_uncutSeconds 6 = .ok (.getfield 23, 3) := by decide +kernel
theorem dX3_uncutSeconds_9 : decode cX3_uncutSeconds 9 = .ok (.invokevirtual 27, 3) := by decide +kernel
theorem dX3_uncutSeconds_12 : decode cX3_uncutSeconds 12 = .ok (.if_icmp .ge 35, 3) := by decide +kernel
theorem dX3_uncutSeconds_15 : decode cX3_uncutSeconds 15 = .ok (.aload_n 0, 1) := by decide +kernel
theorem dX3_uncutSeconds_16 : decode cX3_uncutSeconds 16 = .ok (.getfield 23, 3) := by decide +kernel
theorem dX3_uncutSeconds_19 : decode cX3_uncutSeconds 19 = .ok (.iload_n 2, 1) := by decide +kernel
theorem dX3_uncutSeconds_20 : decode cX3_uncutSeconds 20 = .ok (.invokevirtual 40, 3) := by decide +kernel
theorem dX3_uncutSeconds_23 : decode cX3_uncutSeconds 23 = .ok (.checkcast 44, 3) := by decide +kernel
theorem dX3_uncutSeconds_26 : decode cX3_uncutSeconds 26 = .ok (.astore_n 3, 1) := by decide +kernel
theorem dX3_uncutSeconds_27 : decode cX3_uncutSeconds 27 = .ok (.aload_n 3, 1) := by decide +kernel
theorem dX3_uncutSeconds_28 : decode cX3_uncutSeconds 28 = .ok (.getfield 46, 3) := by decide +kernel
theorem dX3_uncutSeconds_31 : decode cX3_uncutSeconds 31 = .ok (.ifCond .ne 10, 3) := by decide +kernel
theorem dX3_uncutSeconds_34 : decode cX3_uncutSeconds 34 = .ok (.iload_n 1, 1) := by decide +kernel
theorem dX3_uncutSeconds_35 : decode cX3_uncutSeconds 35 = .ok (.aload_n 3, 1) := by decide +kernel
theorem dX3_uncutSeconds_36 : decode cX3_uncutSeconds 36 = .ok (.getfield 49, 3) := by decide +kernel
theorem dX3_uncutSeconds_39 : decode cX3_uncutSeconds 39 = .ok (.iadd, 1) := by decide +kernel
theorem dX3_uncutSeconds_40 : decode cX3_uncutSeconds 40 = .ok (.istore_n 1, 1) := by decide +kernel
theorem dX3_uncutSeconds_41 : decode cX3_uncutSeconds 41 = .ok (.iinc 2 1, 3) := by decide +kernel
theorem dX3_uncutSeconds_44 : decode cX3_uncutSeconds 44 = .ok (.goto (-40), 3) := by decide +kernel
theorem dX3_uncutSeconds_47 : decode cX3_uncutSeconds 47 = .ok (.iload_n 1, 1) := by decide +kernel
theorem dX3_uncutSeconds_48 : decode cX3_uncutSeconds 48 = .ok (.ireturn, 1) := by decide +kernel
theorem dX4_init_0 : decode cX4_init 0 = .ok (.aload_n 0, 1) := by decide +kernel
theorem dX4_init_1 : decode cX4_init 1 = .ok (.invokespecial 1, 3) := by decide +kernel
theorem dX4_init_4 : decode cX4_init 4 = .ok (.aload_n 0, 1) := by decide +kernel
theorem dX4_init_5 : decode cX4_init 5 = .ok (.iconst 0, 1) := by decide +kernel
theorem dX4_init_6 : decode cX4_init 6 = .ok (.putfield 7, 3) := by decide +kernel
theorem dX4_init_9 : decode cX4_init 9 = .ok (.aload_n 0, 1) := by decide +kernel
theorem dX4_init_10 : decode cX4_init 10 = .ok (.iconst 0, 1) := by decide +kernel
theorem dX4_init_11 : decode cX4_init 11 = .ok (.putfield 13, 3) := by decide +kernel
theorem dX4_init_14 : decode cX4_init 14 = .ok (.aload_n 0, 1) := by decide +kernel
theorem dX4_init_15 : decode cX4_init 15 = .ok (.iload_n 1, 1) := by decide +kernel
theorem dX4_init_16 : decode cX4_init 16 = .ok (.putfield 17, 3) := by decide +kernel
theorem dX4_init_19 : decode cX4_init 19 = .ok (.aload_n 0, 1) := by decide +kernel
theorem dX4_init_20 : decode cX4_init 20 = .ok (.iload_n 2, 1) := by decide +kernel
theorem dX4_init_21 : decode cX4_init 21 = .ok (.putfield 20, 3) := by decide +kernel
theorem dX4_init_24 : decode cX4_init 24 = .ok (.aload_n 0, 1) := by decide +kernel
theorem dX4_init_25 : decode cX4_init 25 = .ok (.iload_n 3, 1) := by decide +kernel
theorem dX4_init_26 : decode cX4_init 26 = .ok (.putfield 23, 3) := by decide +kernel
theorem dX4_init_29 : decode cX4_init 29 = .ok (.return_, 1) := by decide +kernel
theorem dX5_init_0 : decode cX5_init 0 = .ok (.aload_n 0, 1) := by decide +kernel
theorem dX5_init_1 : decode cX5_init 1 = .ok (.invokespecial 1, 3) := by decide +kernel
theorem dX5_init_4 : decode cX5_init 4 = .ok (.aload_n 0, 1) := by decide +kernel
theorem dX5_init_5 : decode cX5_init 5 = .ok (.aload_n 1, 1) := by decide +kernel
theorem dX5_init_6 : decode cX5_init 6 = .ok (.putfield 7, 3) := by decide +kernel
theorem dX5_init_9 : decode cX5_init 9 = .ok (.aload_n 0, 1) := by decide +kernel
theorem dX5_init_10 : decode cX5_init 10 = .ok (.iload_n 2, 1) := by decide +kernel
theorem dX5_init_11 : decode cX5_init 11 = .ok (.putfield 13, 3) := by decide +kernel
theorem dX5_init_14 : decode cX5_init 14 = .ok (.aload_n 0, 1) := by decide +kernel
theorem dX5_init_15 : decode cX5_init 15 = .ok (.iload_n 3, 1) := by decide +kernel
theorem dX5_init_16 : decode cX5_init 16 = .ok (.putfield 17, 3) := by decide +kernel
theorem dX5_init_19 : decode cX5_init 19 = .ok (.aload_n 0, 1) := by decide +kernel
theorem dX5_init_20 : decode cX5_init 20 = .ok (.iload 4, 2) := by decide +kernel
theorem dX5_init_22 : decode cX5_init 22 = .ok (.putfield 20, 3) := by decide +kernel
theorem dX5_init_25 : decode cX5_init 25 = .ok (.aload_n 0, 1) := by decide +kernel
theorem dX5_init_26 : decode cX5_init 26 = .ok (.iload 5, 2) := by decide +kernel
theorem dX5_init_28 : decode cX5_init 28 = .ok (.putfield 23, 3) := by decide +kernel
theorem dX5_init_31 : decode cX5_init 31 = .ok (.return_, 1) := by decide +kernel
theorem dX6_init_0 : decode cX6_init 0 = .ok (.aload_n 0, 1) := by decide +kernel
theorem dX6_init_1 : decode cX6_init 1 = .ok (.invokespecial 1, 3) := by decide +kernel
theorem dX6_init_4 : decode cX6_init 4 = .ok (.aload_n 0, 1) := by decide +kernel
theorem dX6_init_5 : decode cX6_init 5 = .ok (.iload_n 1, 1) := by decide +kernel
theorem dX6_init_6 : decode cX6_init 6 = .ok (.putfield 7, 3) := by decide +kernel
theorem dX6_init_9 : decode cX6_init 9 = .ok (.aload_n 0, 1) := by decide +kernel
theorem dX6_init_10 : decode cX6_init 10 = .ok (.iload_n 2, 1) := by decide +kernel
theorem dX6_init_11 : decode cX6_init 11 = .ok (.putfield 13, 3) := by decide +kernel
theorem dX6_init_14 : decode cX6_init 14 = .ok (.return_, 1) := by decide +kernel
theorem dJ9_max_7cf53_0 : decode cJ9_max_7cf53 0 = .ok (.iload_n 0, 1) := by decide +kernel
theorem dJ9_max_7cf53_1 : decode cJ9_max_7cf53 1 = .ok (.iload_n 1, 1) := by decide +kernel
theorem dJ9_max_7cf53_2 : decode cJ9_max_7cf53 2 = .ok (.if_icmp .lt 7, 3) := by decide +kernel
theorem dJ9_max_7cf53_5 : decode cJ9_max_7cf53 5 = .ok (.iload_n 0, 1) := by decide +kernel
theorem dJ9_max_7cf53_6 : decode cJ9_max_7cf53 6 = .ok (.goto 4, 3) := by decide +kernel
theorem dJ9_max_7cf53_9 : decode cJ9_max_7cf53 9 = .ok (.iload_n 1, 1) := by decide +kernel
theorem dJ9_max_7cf53_10 : decode cJ9_max_7cf53 10 = .ok (.ireturn, 1) := by decide +kernel
theorem dJ9_min_7cf53_0 : decode cJ9_min_7cf53 0 = .ok (.iload_n 0, 1) := by decide +kernel
theorem dJ9_min_7cf53_1 : decode cJ9_min_7cf53 1 = .ok (.iload_n 1, 1) := by decide +kernel
theorem dJ9_min_7cf53_2 : decode cJ9_min_7cf53 2 = .ok (.if_icmp .gt 7, 3) := by decide +kernel
theorem dJ9_min_7cf53_5 : decode cJ9_min_7cf53 5 = .ok (.iload_n 0, 1) := by decide +kernel
theorem dJ9_min_7cf53_6 : decode cJ9_min_7cf53 6 = .ok (.goto 4, 3) := by decide +kernel
theorem dJ9_min_7cf53_9 : decode cJ9_min_7cf53 9 = .ok (.iload_n 1, 1) := by decide +kernel
theorem dJ9_min_7cf53_10 : decode cJ9_min_7cf53 10 = .ok (.ireturn, 1) := by decide +kernel
theorem dJxa1e45_init_da8c8_0 : decode cJxa1e45_init_da8c8 0 = .ok (.aload_n 0, 1) := by decide +kernel
theorem dJxa1e45_init_da8c8_1 : decode cJxa1e45_init_da8c8 1 = .ok (.invokespecial 1, 3) := by decide +kernel
theorem dJxa1e45_init_da8c8_4 : decode cJxa1e45_init_da8c8 4 = .ok (.return_, 1) := by decide +kernel
theorem dJxc12de_init_da8c8_0 : decode cJxc12de_init_da8c8 0 = .ok (.aload_n 0, 1) := by decide +kernel
theorem dJxc12de_init_da8c8_1 : decode cJxc12de_init_da8c8 1 = .ok (.invokespecial 1, 3) := by decide +kernel
theorem dJxc12de_init_da8c8_4 : decode cJxc12de_init_da8c8 4 = .ok (.aload_n 0, 1) := by decide +kernel
theorem dJxc12de_init_da8c8_5 : decode cJxc12de_init_da8c8 5 = .ok (.iconst 0, 1) := by decide +kernel
theorem dJxc12de_init_da8c8_6 : decode cJxc12de_init_da8c8 6 = .ok (.putfield 7, 3) := by decide +kernel
theorem dJxc12de_init_da8c8_9 : decode cJxc12de_init_da8c8 9 = .ok (.return_, 1) := by decide +kernel
theorem dJx4a65c_init_da8c8_0 : decode cJx4a65c_init_da8c8 0 = .ok (.aload_n 0, 1) := by decide +kernel
theorem dJx4a65c_init_da8c8_1 : decode cJx4a65c_init_da8c8 1 = .ok (.invokespecial 1, 3) := by decide +kernel
theorem dJx4a65c_init_da8c8_4 : decode cJx4a65c_init_da8c8 4 = .ok (.aload_n 0, 1) := by decide +kernel
theorem dJx4a65c_init_da8c8_5 : decode cJx4a65c_init_da8c8 5 = .ok (.getstatic 39, 3) := by decide +kernel
theorem dJx4a65c_init_da8c8_8 : decode cJx4a65c_init_da8c8 8 = .ok (.putfield 9, 3) := by decide +kernel
theorem dJx4a65c_init_da8c8_11 : decode cJx4a65c_init_da8c8 11 = .ok (.return_, 1) := by decide +kernel
theorem dJx4a65c_grow_92f84_0 : decode cJx4a65c_grow_92f84 0 = .ok (.aload_n 0, 1) := by decide +kernel
theorem dJx4a65c_grow_92f84_1 : decode cJx4a65c_grow_92f84 1 = .ok (.getfield 9, 3) := by decide +kernel
theorem dJx4a65c_grow_92f84_4 : decode cJx4a65c_grow_92f84 4 = .ok (.arraylength, 1) := by decide +kernel
theorem dJx4a65c_grow_92f84_5 : decode cJx4a65c_grow_92f84 5 = .ok (.istore_n 2, 1) := by decide +kernel
theorem dJx4a65c_grow_92f84_6 : decode cJx4a65c_grow_92f84 6 = .ok (.iload_n 2, 1) := by decide +kernel
theorem dJx4a65c_grow_92f84_7 : decode cJx4a65c_grow_92f84 7 = .ok (.ifCond .gt 13, 3) := by decide +kernel
theorem dJx4a65c_grow_92f84_10 : decode cJx4a65c_grow_92f84 10 = .ok (.aload_n 0, 1) := by decide +kernel
theorem dJx4a65c_grow_92f84_11 : decode cJx4a65c_grow_92f84 11 = .ok (.getfield 9, 3) := by decide +kernel
theorem dJx4a65c_grow_92f84_14 : decode cJx4a65c_grow_92f84 14 = .ok (.getstatic 39, 3) := by decide +kernel
theorem dJx4a65c_grow_92f84_17 : decode cJx4a65c_grow_92f84 17 = .ok (.if_acmp .eq 28, 3) := by decide +kernel
theorem dJx4a65c_grow_92f84_20 : decode cJx4a65c_grow_92f84 20 = .ok (.iload_n 2, 1) := by decide +kernel
theorem dJx4a65c_grow_92f84_21 : decode cJx4a65c_grow_92f84 21 = .ok (.iload_n 1, 1) := by decide +kernel
theorem dJx4a65c_grow_92f84_22 : decode cJx4a65c_grow_92f84 22 = .ok (.iload_n 2, 1) := by decide +kernel
theorem dJx4a65c_grow_92f84_23 : decode cJx4a65c_grow_92f84 23 = .ok (.isub, 1) := by decide +kernel
theorem dJx4a65c_grow_92f84_24 : decode cJx4a65c_grow_92f84 24 = .ok (.iload_n 2, 1) := by decide +kernel
theorem dJx4a65c_grow_92f84_25 : decode cJx4a65c_grow_92f84 25 = .ok (.iconst 1, 1) := by decide +kernel
theorem dJx4a65c_grow_92f84_26 : decode cJx4a65c_grow_92f84 26 = .ok (.ishr, 1) := by decide +kernel
theorem dJx4a65c_grow_92f84_27 : decode cJx4a65c_grow_92f84 27 = .ok (.invokestatic 73, 3) := by decide +kernel
theorem dJx4a65c_grow_92f84_30 : decode cJx4a65c_grow_92f84 30 = .ok (.istore_n 3, 1) := by decide +kernel
theorem dJx4a65c_grow_92f84_31 : decode cJx4a65c_grow_92f84 31 = .ok (.aload_n 0, 1) := by decide +kernel
theorem dJx4a65c_grow_92f84_32 : decode cJx4a65c_grow_92f84 32 = .ok (.aload_n 0, 1) := by decide +kernel
theorem dJx4a65c_grow_92f84_33 : decode cJx4a65c_grow_92f84 33 = .ok (.getfield 9, 3) := by decide +kernel
theorem dJx4a65c_grow_92f84_36 : decode cJx4a65c_grow_92f84 36 = .ok (.iload_n 3, 1) := by decide +kernel
theorem dJx4a65c_grow_92f84_37 : decode cJx4a65c_grow_92f84 37 = .ok (.invokestatic 66, 3) := by decide +kernel
theorem dJx4a65c_grow_92f84_40 : decode cJx4a65c_grow_92f84 40 = .ok (.dup_x1, 1) := by decide +kernel
theorem dJx4a65c_grow_92f84_41 : decode cJx4a65c_grow_92f84 41 = .ok (.putfield 9, 3) := by decide +kernel
theorem dJx4a65c_grow_92f84_44 : decode cJx4a65c_grow_92f84 44 = .ok (.areturn, 1) := by decide +kernel
theorem dJx4a65c_grow_92f84_45 : decode cJx4a65c_grow_92f84 45 = .ok (.aload_n 0, 1) := by decide +kernel
theorem dJx4a65c_grow_92f84_46 : decode cJx4a65c_grow_92f84 46 = .ok (.bipush 10, 2) := by decide +kernel
theorem dJx4a65c_grow_92f84_48 : decode cJx4a65c_grow_92f84 48 = .ok (.iload_n 1, 1) := by decide +kernel
theorem dJx4a65c_grow_92f84_49 : decode cJx4a65c_grow_92f84 49 = .ok (.invokestatic 79, 3) := by decide +kernel
theorem dJx4a65c_grow_92f84_52 : decode cJx4a65c_grow_92f84 52 = .ok (.anewarray 7, 3) := by decide +kernel
theorem dJx4a65c_grow_92f84_55 : decode cJx4a65c_grow_92f84 55 = .ok (.dup_x1, 1) := by decide +kernel
theorem dJx4a65c_grow_92f84_56 : decode cJx4a65c_grow_92f84 56 = .ok (.putfield 9, 3) := by decide +kernel
theorem dJx4a65c_grow_92f84_59 : decode cJx4a65c_grow_92f84 59 = .ok (.areturn, 1) := by decide +kernel
theorem dJx4a65c_grow_d5877_0 : decode cJx4a65c_grow_d5877 0 = .ok (.aload_n 0, 1) := by decide +kernel
theorem dJx4a65c_grow_d5877_1 : decode cJx4a65c_grow_d5877 1 = .ok (.aload_n 0, 1) := by decide +kernel
theorem dJx4a65c_grow_d5877_2 : decode cJx4a65c_grow_d5877 2 = .ok (.getfield 48, 3) := by decide +kernel
theorem dJx4a65c_grow_d5877_5 : decode cJx4a65c_grow_d5877 5 = .ok (.iconst 1, 1) := by decide +kernel
theorem dJx4a65c_grow_d5877_6 : decode cJx4a65c_grow_d5877 6 = .ok (.iadd, 1) := by decide +kernel
theorem dJx4a65c_grow_d5877_7 : decode cJx4a65c_grow_d5877 7 = .ok (.invokevirtual 69, 3) := by decide +kernel
theorem dJx4a65c_grow_d5877_10 : decode cJx4a65c_grow_d5877 10 = .ok (.areturn, 1) := by decide +kernel
theorem dJx4a65c_size_8abf5_0 : decode cJx4a65c_size_8abf5 0 = .ok (.aload_n 0, 1) := by decide +kernel
theorem dJx4a65c_size_8abf5_1 : decode cJx4a65c_size_8abf5 1 = .ok (.getfield 48, 3) := by decide +kernel
theorem dJx4a65c_size_8abf5_4 : decode cJx4a65c_size_8abf5 4 = .ok (.ireturn, 1) := by decide +kernel
theorem dJx4a65c_elementData_915e3_0 : decode cJx4a65c_elementData_915e3 0 = .ok (.aload_n 0, 1) := by decide +kernel
theorem dJx4a65c_elementData_915e3_1 : decode cJx4a65c_elementData_915e3 1 = .ok (.getfield 9, 3) := by decide +kernel
theorem dJx4a65c_elementData_915e3_4 : decode cJx4a65c_elementData_915e3 4 = .ok (.iload_n 1, 1) := by decide +kernel
theorem dJx4a65c_elementData_915e3_5 : decode cJx4a65c_elementData_915e3 5 = .ok (.aaload, 1) := by decide +kernel
theorem dJx4a65c_elementData_915e3_6 : decode cJx4a65c_elementData_915e3 6 = .ok (.areturn, 1) := by decide +kernel
theorem dJx4a65c_get_915e3_0 : decode cJx4a65c_get_915e3 0 = .ok (.iload_n 1, 1) := by decide +kernel
theorem dJx4a65c_get_915e3_1 : decode cJx4a65c_get_915e3 1 = .ok (.aload_n 0, 1) := by decide +kernel
theorem dJx4a65c_get_915e3_2 : decode cJx4a65c_get_915e3 2 = .ok (.getfield 48, 3) := by decide +kernel
theorem dJx4a65c_get_915e3_5 : decode cJx4a65c_get_915e3 5 = .ok (.invokestatic 118, 3) := by decide +kernel
theorem dJx4a65c_get_915e3_8 : decode cJx4a65c_get_915e3 8 = .ok (.pop, 1) := by decide +kernel
theorem dJx4a65c_get_915e3_9 : decode cJx4a65c_get_915e3 9 = .ok (.aload_n 0, 1) := by decide +kernel
theorem dJx4a65c_get_915e3_10 : decode cJx4a65c_get_915e3 10 = .ok (.iload_n 1, 1) := by decide +kernel
theorem dJx4a65c_get_915e3_11 : decode cJx4a65c_get_915e3 11 = .ok (.invokevirtual 123, 3) := by decide +kernel
theorem dJx4a65c_get_915e3_14 : decode cJx4a65c_get_915e3 14 = .ok (.areturn, 1) := by decide +kernel
theorem dJx4a65c_add_72be8_0 : decode cJx4a65c_add_72be8 0 = .ok (.iload_n 3, 1) := by decide +kernel
theorem dJx4a65c_add_72be8_1 : decode cJx4a65c_add_72be8 1 = .ok (.aload_n 2, 1) := by decide +kernel
theorem dJx4a65c_add_72be8_2 : decode cJx4a65c_add_72be8 2 = .ok (.arraylength, 1) := by decide +kernel
theorem dJx4a65c_add_72be8_3 : decode cJx4a65c_add_72be8 3 = .ok (.if_icmp .ne 8, 3) := by decide +kernel
theorem dJx4a65c_add_72be8_6 : decode cJx4a65c_add_72be8 6 = .ok (.aload_n 0, 1) := by decide +kernel
theorem dJx4a65c_add_72be8_7 : decode cJx4a65c_add_72be8 7 = .ok (.invokevirtual 129, 3) := by decide +kernel
theorem dJx4a65c_add_72be8_10 : decode cJx4a65c_add_72be8 10 = .ok (.astore_n 2, 1) := by decide +kernel
theorem dJx4a65c_add_72be8_11 : decode cJx4a65c_add_72be8 11 = .ok (.aload_n 2, 1) := by decide +kernel
theorem dJx4a65c_add_72be8_12 : decode cJx4a65c_add_72be8 12 = .ok (.iload_n 3, 1) := by decide +kernel
theorem dJx4a65c_add_72be8_13 : decode cJx4a65c_add_72be8 13 = .ok (.aload_n 1, 1) := by decide +kernel
theorem dJx4a65c_add_72be8_14 : decode cJx4a65c_add_72be8 14 = .ok (.aastore, 1) := by decide +kernel
theorem dJx4a65c_add_72be8_15 : decode cJx4a65c_add_72be8 15 = .ok (.aload_n 0, 1) := by decide +kernel
theorem dJx4a65c_add_72be8_16 : decode cJx4a65c_add_72be8 16 = .ok (.iload_n 3, 1) := by decide +kernel
theorem dJx4a65c_add_72be8_17 : decode cJx4a65c_add_72be8 17 = .ok (.iconst 1, 1) := by decide +kernel
theorem dJx4a65c_add_72be8_18 : decode cJx4a65c_add_72be8 18 = .ok (.iadd, 1) := by decide +kernel
theorem dJx4a65c_add_72be8_19 : decode cJx4a65c_add_72be8 19 = .ok (.putfield 48, 3) := by decide +kernel
theorem dJx4a65c_add_72be8_22 : decode cJx4a65c_add_72be8 22 = .ok (.return_, 1) := by decide +kernel
theorem dJx4a65c_add_9ea2d_0 : decode cJx4a65c_add_9ea2d 0 = .ok (.aload_n 0, 1) := by decide +kernel
theorem dJx4a65c_add_9ea2d_1 : decode cJx4a65c_add_9ea2d 1 = .ok (.dup, 1) := by decide +kernel
theorem dJx4a65c_add_9ea2d_2 : decode cJx4a65c_add_9ea2d 2 = .ok (.getfield 63, 3) := by decide +kernel
theorem dJx4a65c_add_9ea2d_5 : decode cJx4a65c_add_9ea2d 5 = .ok (.iconst 1, 1) := by decide +kernel
theorem dJx4a65c_add_9ea2d_6 : decode cJx4a65c_add_9ea2d 6 = .ok (.iadd, 1) := by decide +kernel
theorem dJx4a65c_add_9ea2d_7 : decode cJx4a65c_add_9ea2d 7 = .ok (.putfield 63, 3) := by decide +kernel
theorem dJx4a65c_add_9ea2d_10 : decode cJx4a65c_add_9ea2d 10 = .ok (.aload_n 0, 1) := by decide +kernel
theorem dJx4a65c_add_9ea2d_11 : decode cJx4a65c_add_9ea2d 11 = .ok (.aload_n 1, 1) := by decide +kernel
theorem dJx4a65c_add_9ea2d_12 : decode cJx4a65c_add_9ea2d 12 = .ok (.aload_n 0, 1) := by decide +kernel
theorem dJx4a65c_add_9ea2d_13 : decode cJx4a65c_add_9ea2d 13 = .ok (.getfield 9, 3) := by decide +kernel
theorem dJx4a65c_add_9ea2d_16 : decode cJx4a65c_add_9ea2d 16 = .ok (.aload_n 0, 1) := by decide +kernel
theorem dJx4a65c_add_9ea2d_17 : decode cJx4a65c_add_9ea2d 17 = .ok (.getfield 48, 3) := by decide +kernel
theorem dJx4a65c_add_9ea2d_20 : decode cJx4a65c_add_9ea2d 20 = .ok (.invokevirtual 131, 3) := by decide +kernel
theorem dJx4a65c_add_9ea2d_23 : decode cJx4a65c_add_9ea2d 23 = .ok (.iconst 1, 1) := by decide +kernel
theorem dJx4a65c_add_9ea2d_24 : decode cJx4a65c_add_9ea2d 24 = .ok (.ireturn, 1) := by decide +kernel
theorem dJx4a65c_clear_da8c8_0 : decode cJx4a65c_clear_da8c8 0 = .ok (.aload_n 0, 1) := by decide +kernel
theorem dJx4a65c_clear_da8c8_1 : decode cJx4a65c_clear_da8c8 1 = .ok (.dup, 1) := by decide +kernel
theorem dJx4a65c_clear_da8c8_2 : decode cJx4a65c_clear_da8c8 2 = .ok (.getfield 63, 3) := by decide +kernel
theorem dJx4a65c_clear_da8c8_5 : decode cJx4a65c_clear_da8c8 5 = .ok (.iconst 1, 1) := by decide +kernel
theorem dJx4a65c_clear_da8c8_6 : decode cJx4a65c_clear_da8c8 6 = .ok (.iadd, 1) := by decide +kernel
theorem dJx4a65c_clear_da8c8_7 : decode cJx4a65c_clear_da8c8 7 = .ok (.putfield 63, 3) := by decide +kernel
theorem dJx4a65c_clear_da8c8_10 : decode cJx4a65c_clear_da8c8 10 = .ok (.aload_n 0, 1) := by decide +kernel
theorem dJx4a65c_clear_da8c8_11 : decode cJx4a65c_clear_da8c8 11 = .ok (.getfield 9, 3) := by decide +kernel
theorem dJx4a65c_clear_da8c8_14 : decode cJx4a65c_clear_da8c8 14 = .ok (.astore_n 1, 1) := by decide +kernel
theorem dJx4a65c_clear_da8c8_15 : decode cJx4a65c_clear_da8c8 15 = .ok (.aload_n 0, 1) := by decide +kernel
theorem dJx4a65c_clear_da8c8_16 : decode cJx4a65c_clear_da8c8 16 = .ok (.getfield 48, 3) := by decide +kernel
theorem dJx4a65c_clear_da8c8_19 : decode cJx4a65c_clear_da8c8 19 = .ok (.istore_n 2, 1) := by decide +kernel
theorem dJx4a65c_clear_da8c8_20 : decode cJx4a65c_clear_da8c8 20 = .ok (.aload_n 0, 1) := by decide +kernel
theorem dJx4a65c_clear_da8c8_21 : decode cJx4a65c_clear_da8c8 21 = .ok (.iconst 0, 1) := by decide +kernel
theorem dJx4a65c_clear_da8c8_22 : decode cJx4a65c_clear_da8c8 22 = .ok (.dup_x1, 1) := by decide +kernel
theorem dJx4a65c_clear_da8c8_23 : decode cJx4a65c_clear_da8c8 23 = .ok (.putfield 48, 3) := by decide +kernel
theorem dJx4a65c_clear_da8c8_26 : decode cJx4a65c_clear_da8c8 26 = .ok (.istore_n 3, 1) := by decide +kernel
theorem dJx4a65c_clear_da8c8_27 : decode cJx4a65c_clear_da8c8 27 = .ok (.iload_n 3, 1) := by decide +kernel
theorem dJx4a65c_clear_da8c8_28 : decode cJx4a65c_clear_da8c8 28 = .ok (.iload_n 2, 1) := by decide +kernel
theorem dJx4a65c_clear_da8c8_29 : decode cJx4a65c_clear_da8c8 29 = .ok (.if_icmp .ge 13, 3) := by decide +kernel
theorem dJx4a65c_clear_da8c8_32 : decode cJx4a65c_clear_da8c8 32 = .ok (.aload_n 1, 1) := by decide +kernel
theorem dJx4a65c_clear_da8c8_33 : decode cJx4a65c_clear_da8c8 33 = .ok (.iload_n 3, 1) := by decide +kernel
theorem dJx4a65c_clear_da8c8_34 : decode cJx4a65c_clear_da8c8 34 = .ok (.aconst_null, 1) := by decide +kernel
theorem dJx4a65c_clear_da8c8_35 : decode cJx4a65c_clear_da8c8 35 = .ok (.aastore, 1) := by decide +kernel
theorem dJx4a65c_clear_da8c8_36 : decode cJx4a65c_clear_da8c8 36 = .ok (.iinc 3 1, 3) := by decide +kernel
theorem dJx4a65c_clear_da8c8_39 : decode cJx4a65c_clear_da8c8 39 = .ok (.goto (-12), 3) := by decide +kernel
theorem dJx4a65c_clear_da8c8_42 : decode cJx4a65c_clear_da8c8 42 = .ok (.return_, 1) := by decide +kernel
theorem dJ7_copyOf_1904c_0 : decode cJ7_copyOf_1904c 0 = .ok (.aload_n 0, 1) := by decide +kernel
theorem dJ7_copyOf_1904c_1 : decode cJ7_copyOf_1904c 1 = .ok (.iload_n 1, 1) := by decide +kernel
theorem dJ7_copyOf_1904c_2 : decode cJ7_copyOf_1904c 2 = .ok (.aload_n 0, 1) := by decide +kernel
theorem dJ7_copyOf_1904c_3 : decode cJ7_copyOf_1904c 3 = .ok (.invokevirtual 86, 3) := by decide +kernel
theorem dJ7_copyOf_1904c_6 : decode cJ7_copyOf_1904c 6 = .ok (.invokestatic 300, 3) := by decide +kernel
theorem dJ7_copyOf_1904c_9 : decode cJ7_copyOf_1904c 9 = .ok (.areturn, 1) := by decide +kernel
theorem dJ7_copyOf_6403c_0 : decode cJ7_copyOf_6403c 0 = .ok (.aload_n 2, 1) := by decide +kernel
theorem dJ7_copyOf_6403c_1 : decode cJ7_copyOf_6403c 1 = .ok (.ldc 110, 2) := by decide +kernel
theorem dJ7_copyOf_6403c_3 : decode cJ7_copyOf_6403c 3 = .ok (.if_acmp .ne 10, 3) := by decide +kernel
theorem dJ7_copyOf_6403c_6 : decode cJ7_copyOf_6403c 6 = .ok (.iload_n 1, 1) := by decide +kernel
theorem dJ7_copyOf_6403c_7 : decode cJ7_copyOf_6403c 7 = .ok (.anewarray 2, 3) := by decide +kernel
theorem dJ7_copyOf_6403c_10 : decode cJ7_copyOf_6403c 10 = .ok (.goto 14, 3) := by decide +kernel
theorem dJ7_copyOf_6403c_13 : decode cJ7_copyOf_6403c 13 = .ok (.aload_n 2, 1) := by decide +kernel
theorem dJ7_copyOf_6403c_14 : decode cJ7_copyOf_6403c 14 = .ok (.invokevirtual 90, 3) := by decide +kernel
theorem dJ7_copyOf_6403c_17 : decode cJ7_copyOf_6403c 17 = .ok (.iload_n 1, 1) := by decide +kernel
theorem dJ7_copyOf_6403c_18 : decode cJ7_copyOf_6403c 18 = .ok (.invokestatic 95, 3) := by decide +kernel
theorem dJ7_copyOf_6403c_21 : decode cJ7_copyOf_6403c 21 = .ok (.checkcast 110, 3) := by decide +kernel
theorem dJ7_copyOf_6403c_24 : decode cJ7_copyOf_6403c 24 = .ok (.astore_n 3, 1) := by decide +kernel
theorem dJ7_copyOf_6403c_25 : decode cJ7_copyOf_6403c 25 = .ok (.aload_n 0, 1) := by decide +kernel
theorem dJ7_copyOf_6403c_26 : decode cJ7_copyOf_6403c 26 = .ok (.iconst 0, 1) := by decide +kernel
theorem dJ7_copyOf_6403c_27 : decode cJ7_copyOf_6403c 27 = .ok (.aload_n 3, 1) := by decide +kernel
theorem dJ7_copyOf_6403c_28 : decode cJ7_copyOf_6403c 28 = .ok (.iconst 0, 1) := by decide +kernel
theorem dJ7_copyOf_6403c_29 : decode cJ7_copyOf_6403c 29 = .ok (.aload_n 0, 1) := by decide +kernel
theorem dJ7_copyOf_6403c_30 : decode cJ7_copyOf_6403c 30 = .ok (.arraylength, 1) := by decide +kernel
theorem dJ7_copyOf_6403c_31 : decode cJ7_copyOf_6403c 31 = .ok (.iload_n 1, 1) := by decide +kernel
theorem dJ7_copyOf_6403c_32 : decode cJ7_copyOf_6403c 32 = .ok (.invokestatic 304, 3) := by decide +kernel
theorem dJ7_copyOf_6403c_35 : decode cJ7_copyOf_6403c 35 = .ok (.invokestatic 150, 3) := by decide +kernel
theorem dJ7_copyOf_6403c_38 : decode cJ7_copyOf_6403c 38 = .ok (.aload_n 3, 1) := by decide +kernel
theorem dJ7_copyOf_6403c_39 : decode cJ7_copyOf_6403c 39 = .ok (.areturn, 1) := by decide +kernel
theorem dJ15_checkIndex_7cf53_0 : decode cJ15_checkIndex_7cf53 0 = .ok (.iload_n 0, 1) := by decide +kernel
theorem dJ15_checkIndex_7cf53_1 : decode cJ15_checkIndex_7cf53 1 = .ok (.iload_n 1, 1) := by decide +kernel
theorem dJ15_checkIndex_7cf53_2 : decode cJ15_checkIndex_7cf53 2 = .ok (.aconst_null, 1) := by decide +kernel
theorem dJ15_checkIndex_7cf53_3 : decode cJ15_checkIndex_7cf53 3 = .ok (.invokestatic 105, 3) := by decide +kernel
theorem dJ15_checkIndex_7cf53_6 : decode cJ15_checkIndex_7cf53 6 = .ok (.ireturn, 1) := by decide +kernel
theorem dJ8_newLength_cabcc_0 : decode cJ8_newLength_cabcc 0 = .ok (.iload_n 0, 1) := by decide +kernel
theorem dJ8_newLength_cabcc_1 : decode cJ8_newLength_cabcc 1 = .ok (.iload_n 1, 1) := by decide +kernel
theorem dJ8_newLength_cabcc_2 : decode cJ8_newLength_cabcc 2 = .ok (.iload_n 2, 1) := by decide +kernel
theorem dJ8_newLength_cabcc_3 : decode cJ8_newLength_cabcc 3 = .ok (.invokestatic 194, 3) := by decide +kernel
theorem dJ8_newLength_cabcc_6 : decode cJ8_newLength_cabcc 6 = .ok (.iadd, 1) := by decide +kernel
theorem dJ8_newLength_cabcc_7 : decode cJ8_newLength_cabcc 7 = .ok (.istore_n 3, 1) := by decide +kernel
theorem dJ8_newLength_cabcc_8 : decode cJ8_newLength_cabcc 8 = .ok (.iconst 0, 1) := by decide +kernel
theorem dJ8_newLength_cabcc_9 : decode cJ8_newLength_cabcc 9 = .ok (.iload_n 3, 1) := by decide +kernel
theorem dJ8_newLength_cabcc_10 : decode cJ8_newLength_cabcc 10 = .ok (.if_icmp .ge 11, 3) := by decide +kernel
theorem dJ8_newLength_cabcc_13 : decode cJ8_newLength_cabcc 13 = .ok (.iload_n 3, 1) := by decide +kernel
theorem dJ8_newLength_cabcc_14 : decode cJ8_newLength_cabcc 14 = .ok (.ldc 200, 2) := by decide +kernel
theorem dJ8_newLength_cabcc_16 : decode cJ8_newLength_cabcc 16 = .ok (.if_icmp .gt 5, 3) := by decide +kernel
theorem dJ8_newLength_cabcc_19 : decode cJ8_newLength_cabcc 19 = .ok (.iload_n 3, 1) := by decide +kernel
theorem dJ8_newLength_cabcc_20 : decode cJ8_newLength_cabcc 20 = .ok (.ireturn, 1) := by decide +kernel
theorem dJ8_newLength_cabcc_21 : decode cJ8_newLength_cabcc 21 = .ok (.iload_n 0, 1) := by decide +kernel
theorem dJ8_newLength_cabcc_22 : decode cJ8_newLength_cabcc 22 = .ok (.iload_n 1, 1) := by decide +kernel
theorem dJ8_newLength_cabcc_23 : decode cJ8_newLength_cabcc 23 = .ok (.invokestatic 201, 3) := by decide +kernel
theorem dJ8_newLength_cabcc_26 : decode cJ8_newLength_cabcc 26 = .ok (.ireturn, 1) := by decide +kernel
theorem dJ8_hugeLength_7cf53_0 : decode cJ8_hugeLength_7cf53 0 = .ok (.iload_n 0, 1) := by decide +kernel
theorem dJ8_hugeLength_7cf53_1 : decode cJ8_hugeLength_7cf53 1 = .ok (.iload_n 1, 1) := by decide +kernel
theorem dJ8_hugeLength_7cf53_2 : decode cJ8_hugeLength_7cf53 2 = .ok (.iadd, 1) := by decide +kernel
theorem dJ8_hugeLength_7cf53_3 : decode cJ8_hugeLength_7cf53 3 = .ok (.istore_n 2, 1) := by decide +kernel
theorem dJ8_hugeLength_7cf53_4 : decode cJ8_hugeLength_7cf53 4 = .ok (.iload_n 2, 1) := by decide +kernel
theorem dJ8_hugeLength_7cf53_5 : decode cJ8_hugeLength_7cf53 5 = .ok (.ifCond .ge 44, 3) := by decide +kernel
theorem dJ8_hugeLength_7cf53_8 : decode cJ8_hugeLength_7cf53 8 = .ok (.new 204, 3) := by decide +kernel
theorem dJ8_hugeLength_7cf53_11 : decode cJ8_hugeLength_7cf53 11 = .ok (.dup, 1) := by decide +kernel
theorem dJ8_hugeLength_7cf53_12 : decode cJ8_hugeLength_7cf53 12 = .ok (.new 89, 3) := by decide +kernel
theorem dJ8_hugeLength_7cf53_15 : decode cJ8_hugeLength_7cf53 15 = .ok (.dup, 1) := by decide +kernel
theorem dJ8_hugeLength_7cf53_16 : decode cJ8_hugeLength_7cf53 16 = .ok (.invokespecial 91, 3) := by decide +kernel
theorem dJ8_hugeLength_7cf53_19 : decode cJ8_hugeLength_7cf53 19 = .ok (.ldc 206, 2) := by decide +kernel
theorem dJ8_hugeLength_7cf53_21 : decode cJ8_hugeLength_7cf53 21 = .ok (.invokevirtual 94, 3) := by decide +kernel
theorem dJ8_hugeLength_7cf53_24 : decode cJ8_hugeLength_7cf53 24 = .ok (.iload_n 0, 1) := by decide +kernel
theorem dJ8_hugeLength_7cf53_25 : decode cJ8_hugeLength_7cf53 25 = .ok (.invokevirtual 98, 3) := by decide +kernel
theorem dJ8_hugeLength_7cf53_28 : decode cJ8_hugeLength_7cf53 28 = .ok (.ldc 208, 2) := by decide +kernel
theorem dJ8_hugeLength_7cf53_30 : decode cJ8_hugeLength_7cf53 30 = .ok (.invokevirtual 94, 3) := by decide +kernel
theorem dJ8_hugeLength_7cf53_33 : decode cJ8_hugeLength_7cf53 33 = .ok (.iload_n 1, 1) := by decide +kernel
theorem dJ8_hugeLength_7cf53_34 : decode cJ8_hugeLength_7cf53 34 = .ok (.invokevirtual 98, 3) := by decide +kernel
theorem dJ8_hugeLength_7cf53_37 : decode cJ8_hugeLength_7cf53 37 = .ok (.ldc 210, 2) := by decide +kernel
theorem dJ8_hugeLength_7cf53_39 : decode cJ8_hugeLength_7cf53 39 = .ok (.invokevirtual 94, 3) := by decide +kernel
theorem dJ8_hugeLength_7cf53_42 : decode cJ8_hugeLength_7cf53 42 = .ok (.invokevirtual 101, 3) := by decide +kernel
theorem dJ8_hugeLength_7cf53_45 : decode cJ8_hugeLength_7cf53 45 = .ok (.invokespecial 212, 3) := by decide +kernel
theorem dJ8_hugeLength_7cf53_48 : decode cJ8_hugeLength_7cf53 48 = .ok (.athrow, 1) := by decide +kernel
theorem dJ8_hugeLength_7cf53_49 : decode cJ8_hugeLength_7cf53 49 = .ok (.iload_n 2, 1) := by decide +kernel
theorem dJ8_hugeLength_7cf53_50 : decode cJ8_hugeLength_7cf53 50 = .ok (.ldc 200, 2) := by decide +kernel
theorem dJ8_hugeLength_7cf53_52 : decode cJ8_hugeLength_7cf53 52 = .ok (.if_icmp .gt 6, 3) := by decide +kernel
theorem dJ8_hugeLength_7cf53_55 : decode cJ8_hugeLength_7cf53 55 = .ok (.ldc 200, 2) := by decide +kernel
theorem dJ8_hugeLength_7cf53_57 : decode cJ8_hugeLength_7cf53 57 = .ok (.ireturn, 1) := by decide +kernel
theorem dJ8_hugeLength_7cf53_58 : decode cJ8_hugeLength_7cf53 58 = .ok (.iload_n 2, 1) := by decide +kernel
theorem dJ8_hugeLength_7cf53_59 : decode cJ8_hugeLength_7cf53 59 = .ok (.ireturn, 1) := by decide +kernel
theorem dJ3_checkIndex_8e157_0 : decode cJ3_checkIndex_8e157 0 = .ok (.iload_n 0, 1) := by decide +kernel
theorem dJ3_checkIndex_8e157_1 : decode cJ3_checkIndex_8e157 1 = .ok (.ifCond .lt 8, 3) := by decide +kernel
theorem dJ3_checkIndex_8e157_4 : decode cJ3_checkIndex_8e157 4 = .ok (.iload_n 0, 1) := by decide +kernel
theorem dJ3_checkIndex_8e157_5 : decode cJ3_checkIndex_8e157 5 = .ok (.iload_n 1, 1) := by decide +kernel
theorem dJ3_checkIndex_8e157_6 : decode cJ3_checkIndex_8e157 6 = .ok (.if_icmp .lt 10, 3) := by decide +kernel
theorem dJ3_checkIndex_8e157_9 : decode cJ3_checkIndex_8e157 9 = .ok (.aload_n 2, 1) := by decide +kernel
theorem dJ3_checkIndex_8e157_10 : decode cJ3_checkIndex_8e157 10 = .ok (.iload_n 0, 1) := by decide +kernel
theorem dJ3_checkIndex_8e157_11 : decode cJ3_checkIndex_8e157 11 = .ok (.iload_n 1, 1) := by decide +kernel
theorem dJ3_checkIndex_8e157_12 : decode cJ3_checkIndex_8e157 12 = .ok (.invokestatic 95, 3) := by decide +kernel
theorem dJ3_checkIndex_8e157_15 : decode cJ3_checkIndex_8e157 15 = .ok (.athrow, 1) := by decide +kernel
theorem dJ3_checkIndex_8e157_16 : decode cJ3_checkIndex_8e157 16 = .ok (.iload_n 0, 1) := by decide +kernel
theorem dJ3_checkIndex_8e157_17 : decode cJ3_checkIndex_8e157 17 = .ok (.ireturn, 1) := by decide +kernel
