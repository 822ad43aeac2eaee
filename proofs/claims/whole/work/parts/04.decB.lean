theorem dX2_init_0 : decode cX2_init 0 = .ok (.aload_n 0, 1) := by decide +kernel
theorem dX2_init_1 : decode cX2_init 1 = .ok (.invokespecial 3, 3) := by decide +kernel
theorem dX2_init_4 : decode cX2_init 4 = .ok (.aload_n 0, 1) := by decide +kernel
theorem dX2_init_5 : decode cX2_init 5 = .ok (.new 9, 3) := by decide +kernel
theorem dX2_init_8 : decode cX2_init 8 = .ok (.dup, 1) := by decide +kernel
theorem dX2_init_9 : decode cX2_init 9 = .ok (.bipush 26, 2) := by decide +kernel
theorem dX2_init_11 : decode cX2_init 11 = .ok (.invokespecial 11, 3) := by decide +kernel
theorem dX2_init_14 : decode cX2_init 14 = .ok (.putfield 14, 3) := by decide +kernel
theorem dX2_init_17 : decode cX2_init 17 = .ok (.aload_n 0, 1) := by decide +kernel
theorem dX2_init_18 : decode cX2_init 18 = .ok (.new 9, 3) := by decide +kernel
theorem dX2_init_21 : decode cX2_init 21 = .ok (.dup, 1) := by decide +kernel
theorem dX2_init_22 : decode cX2_init 22 = .ok (.iload_n 1, 1) := by decide +kernel
theorem dX2_init_23 : decode cX2_init 23 = .ok (.invokespecial 11, 3) := by decide +kernel
theorem dX2_init_26 : decode cX2_init 26 = .ok (.putfield 20, 3) := by decide +kernel
theorem dX2_init_29 : decode cX2_init 29 = .ok (.aload_n 0, 1) := by decide +kernel
theorem dX2_init_30 : decode cX2_init 30 = .ok (.new 9, 3) := by decide +kernel
theorem dX2_init_33 : decode cX2_init 33 = .ok (.dup, 1) := by decide +kernel
theorem dX2_init_34 : decode cX2_init 34 = .ok (.iload_n 1, 1) := by decide +kernel
theorem dX2_init_35 : decode cX2_init 35 = .ok (.invokespecial 11, 3) := by decide +kernel
theorem dX2_init_38 : decode cX2_init 38 = .ok (.putfield 23, 3) := by decide +kernel
theorem dX2_init_41 : decode cX2_init 41 = .ok (.iconst 0, 1) := by decide +kernel
theorem dX2_init_42 : decode cX2_init 42 = .ok (.istore_n 2, 1) := by decide +kernel
theorem dX2_init_43 : decode cX2_init 43 = .ok (.iload_n 2, 1) := by decide +kernel
theorem dX2_init_44 : decode cX2_init 44 = .ok (.bipush 26, 2) := by decide +kernel
theorem dX2_init_46 : decode cX2_init 46 = .ok (.if_icmp .ge 18, 3) := by decide +kernel
theorem dX2_init_49 : decode cX2_init 49 = .ok (.aload_n 0, 1) := by decide +kernel
theorem dX2_init_50 : decode cX2_init 50 = .ok (.getfield 14, 3) := by decide +kernel
theorem dX2_init_53 : decode cX2_init 53 = .ok (.bipush (-9), 2) := by decide +kernel
theorem dX2_init_55 : decode cX2_init 55 = .ok (.invokevirtual 26, 3) := by decide +kernel
theorem dX2_init_58 : decode cX2_init 58 = .ok (.iinc 2 1, 3) := by decide +kernel
theorem dX2_init_61 : decode cX2_init 61 = .ok (.goto (-18), 3) := by decide +kernel
theorem dX2_init_64 : decode cX2_init 64 = .ok (.return_, 1) := by decide +kernel
theorem dX2_becomes_0 : decode cX2_becomes 0 = .ok (.aload_n 0, 1) := by decide +kernel
theorem dX2_becomes_1 : decode cX2_becomes 1 = .ok (.getfield 20, 3) := by decide +kernel
theorem dX2_becomes_4 : decode cX2_becomes 4 = .ok (.aload_n 1, 1) := by decide +kernel
theorem dX2_becomes_5 : decode cX2_becomes 5 = .ok (.getfield 20, 3) := by decide +kernel
theorem dX2_becomes_8 : decode cX2_becomes 8 = .ok (.invokevirtual 29, 3) := by decide +kernel
theorem dX2_becomes_11 : decode cX2_becomes 11 = .ok (.aload_n 0, 1) := by decide +kernel
theorem dX2_becomes_12 : decode cX2_becomes 12 = .ok (.getfield 23, 3) := by decide +kernel
theorem dX2_becomes_15 : decode cX2_becomes 15 = .ok (.aload_n 1, 1) := by decide +kernel
theorem dX2_becomes_16 : decode cX2_becomes 16 = .ok (.getfield 23, 3) := by decide +kernel
theorem dX2_becomes_19 : decode cX2_becomes 19 = .ok (.invokevirtual 29, 3) := by decide +kernel
theorem dX2_becomes_22 : decode cX2_becomes 22 = .ok (.aload_n 0, 1) := by decide +kernel
theorem dX2_becomes_23 : decode cX2_becomes 23 = .ok (.getfield 14, 3) := by decide +kernel
theorem dX2_becomes_26 : decode cX2_becomes 26 = .ok (.aload_n 1, 1) := by decide +kernel
theorem dX2_becomes_27 : decode cX2_becomes 27 = .ok (.getfield 14, 3) := by decide +kernel
theorem dX2_becomes_30 : decode cX2_becomes 30 = .ok (.invokevirtual 29, 3) := by decide +kernel
theorem dX2_becomes_33 : decode cX2_becomes 33 = .ok (.aload_n 0, 1) := by decide +kernel
theorem dX2_becomes_34 : decode cX2_becomes 34 = .ok (.aload_n 1, 1) := by decide +kernel
theorem dX2_becomes_35 : decode cX2_becomes 35 = .ok (.getfield 33, 3) := by decide +kernel
theorem dX2_becomes_38 : decode cX2_becomes 38 = .ok (.putfield 33, 3) := by decide +kernel
theorem dX2_becomes_41 : decode cX2_becomes 41 = .ok (.return_, 1) := by decide +kernel
theorem dX2_replaces_0 : decode cX2_replaces 0 = .ok (.aload_n 0, 1) := by decide +kernel
theorem dX2_replaces_1 : decode cX2_replaces 1 = .ok (.iload_n 1, 1) := by decide +kernel
theorem dX2_replaces_2 : decode cX2_replaces 2 = .ok (.iload_n 2, 1) := by decide +kernel
theorem dX2_replaces_3 : decode cX2_replaces 3 = .ok (.invokevirtual 37, 3) := by decide +kernel
theorem dX2_replaces_6 : decode cX2_replaces 6 = .ok (.aload_n 0, 1) := by decide +kernel
theorem dX2_replaces_7 : decode cX2_replaces 7 = .ok (.iload_n 1, 1) := by decide +kernel
theorem dX2_replaces_8 : decode cX2_replaces 8 = .ok (.aload_n 3, 1) := by decide +kernel
theorem dX2_replaces_9 : decode cX2_replaces 9 = .ok (.invokevirtual 41, 3) := by decide +kernel
theorem dX2_replaces_12 : decode cX2_replaces 12 = .ok (.return_, 1) := by decide +kernel
theorem dX2_takesOut_0 : decode cX2_takesOut 0 = .ok (.iload_n 2, 1) := by decide +kernel
theorem dX2_takesOut_1 : decode cX2_takesOut 1 = .ok (.ifCond .gt 4, 3) := by decide +kernel
theorem dX2_takesOut_4 : decode cX2_takesOut 4 = .ok (.return_, 1) := by decide +kernel
theorem dX2_takesOut_5 : decode cX2_takesOut 5 = .ok (.aload_n 0, 1) := by decide +kernel
theorem dX2_takesOut_6 : decode cX2_takesOut 6 = .ok (.getfield 20, 3) := by decide +kernel
theorem dX2_takesOut_9 : decode cX2_takesOut 9 = .ok (.iload_n 1, 1) := by decide +kernel
theorem dX2_takesOut_10 : decode cX2_takesOut 10 = .ok (.iload_n 2, 1) := by decide +kernel
theorem dX2_takesOut_11 : decode cX2_takesOut 11 = .ok (.invokevirtual 45, 3) := by decide +kernel
theorem dX2_takesOut_14 : decode cX2_takesOut 14 = .ok (.aload_n 0, 1) := by decide +kernel
theorem dX2_takesOut_15 : decode cX2_takesOut 15 = .ok (.iload_n 1, 1) := by decide +kernel
theorem dX2_takesOut_16 : decode cX2_takesOut 16 = .ok (.iload_n 2, 1) := by decide +kernel
theorem dX2_takesOut_17 : decode cX2_takesOut 17 = .ok (.invokevirtual 48, 3) := by decide +kernel
theorem dX2_takesOut_20 : decode cX2_takesOut 20 = .ok (.aload_n 0, 1) := by decide +kernel
theorem dX2_takesOut_21 : decode cX2_takesOut 21 = .ok (.iload_n 1, 1) := by decide +kernel
theorem dX2_takesOut_22 : decode cX2_takesOut 22 = .ok (.invokevirtual 51, 3) := by decide +kernel
theorem dX2_takesOut_25 : decode cX2_takesOut 25 = .ok (.iconst 0, 1) := by decide +kernel
theorem dX2_takesOut_26 : decode cX2_takesOut 26 = .ok (.istore_n 3, 1) := by decide +kernel
theorem dX2_takesOut_27 : decode cX2_takesOut 27 = .ok (.iload_n 3, 1) := by decide +kernel
theorem dX2_takesOut_28 : decode cX2_takesOut 28 = .ok (.bipush 26, 2) := by decide +kernel
theorem dX2_takesOut_30 : decode cX2_takesOut 30 = .ok (.if_icmp .ge 30, 3) := by decide +kernel
theorem dX2_takesOut_33 : decode cX2_takesOut 33 = .ok (.aload_n 0, 1) := by decide +kernel
theorem dX2_takesOut_34 : decode cX2_takesOut 34 = .ok (.getfield 14, 3) := by decide +kernel
theorem dX2_takesOut_37 : decode cX2_takesOut 37 = .ok (.iload_n 3, 1) := by decide +kernel
theorem dX2_takesOut_38 : decode cX2_takesOut 38 = .ok (.aload_n 0, 1) := by decide +kernel
theorem dX2_takesOut_39 : decode cX2_takesOut 39 = .ok (.getfield 14, 3) := by decide +kernel
theorem dX2_takesOut_42 : decode cX2_takesOut 42 = .ok (.iload_n 3, 1) := by decide +kernel
theorem dX2_takesOut_43 : decode cX2_takesOut 43 = .ok (.invokevirtual 54, 3) := by decide +kernel
theorem dX2_takesOut_46 : decode cX2_takesOut 46 = .ok (.iload_n 1, 1) := by decide +kernel
theorem dX2_takesOut_47 : decode cX2_takesOut 47 = .ok (.iload_n 2, 1) := by decide +kernel
theorem dX2_takesOut_48 : decode cX2_takesOut 48 = .ok (.invokestatic 58, 3) := by decide +kernel
theorem dX2_takesOut_51 : decode cX2_takesOut 51 = .ok (.invokevirtual 62, 3) := by decide +kernel
theorem dX2_takesOut_54 : decode cX2_takesOut 54 = .ok (.iinc 3 1, 3) := by decide +kernel
theorem dX2_takesOut_57 : decode cX2_takesOut 57 = .ok (.goto (-30), 3) := by decide +kernel
theorem dX2_takesOut_60 : decode cX2_takesOut 60 = .ok (.aload_n 0, 1) := by decide +kernel
theorem dX2_takesOut_61 : decode cX2_takesOut 61 = .ok (.aload_n 0, 1) := by decide +kernel
theorem dX2_takesOut_62 : decode cX2_takesOut 62 = .ok (.getfield 33, 3) := by decide +kernel
theorem dX2_takesOut_65 : decode cX2_takesOut 65 = .ok (.iload_n 1, 1) := by decide +kernel
theorem dX2_takesOut_66 : decode cX2_takesOut 66 = .ok (.iload_n 2, 1) := by decide +kernel
theorem dX2_takesOut_67 : decode cX2_takesOut 67 = .ok (.invokestatic 58, 3) := by decide +kernel
theorem dX2_takesOut_70 : decode cX2_takesOut 70 = .ok (.putfield 33, 3) := by decide +kernel
theorem dX2_takesOut_73 : decode cX2_takesOut 73 = .ok (.return_, 1) := by decide +kernel
theorem dX2_putsIn_0 : decode cX2_putsIn 0 = .ok (.aload_n 2, 1) := by decide +kernel
theorem dX2_putsIn_1 : decode cX2_putsIn 1 = .ok (.invokevirtual 65, 3) := by decide +kernel
theorem dX2_putsIn_4 : decode cX2_putsIn 4 = .ok (.istore_n 3, 1) := by decide +kernel
theorem dX2_putsIn_5 : decode cX2_putsIn 5 = .ok (.iload_n 3, 1) := by decide +kernel
theorem dX2_putsIn_6 : decode cX2_putsIn 6 = .ok (.ifCond .ne 4, 3) := by decide +kernel
theorem dX2_putsIn_9 : decode cX2_putsIn 9 = .ok (.return_, 1) := by decide +kernel
theorem dX2_putsIn_10 : decode cX2_putsIn 10 = .ok (.aload_n 0, 1) := by decide +kernel
theorem dX2_putsIn_11 : decode cX2_putsIn 11 = .ok (.getfield 20, 3) := by decide +kernel
theorem dX2_putsIn_14 : decode cX2_putsIn 14 = .ok (.iload_n 1, 1) := by decide +kernel
theorem dX2_putsIn_15 : decode cX2_putsIn 15 = .ok (.iload_n 3, 1) := by decide +kernel
theorem dX2_putsIn_16 : decode cX2_putsIn 16 = .ok (.invokevirtual 69, 3) := by decide +kernel
theorem dX2_putsIn_19 : decode cX2_putsIn 19 = .ok (.iconst 0, 1) := by decide +kernel
theorem dX2_putsIn_20 : decode cX2_putsIn 20 = .ok (.istore 4, 2) := by decide +kernel
theorem dX2_putsIn_22 : decode cX2_putsIn 22 = .ok (.iload 4, 2) := by decide +kernel
theorem dX2_putsIn_24 : decode cX2_putsIn 24 = .ok (.iload_n 3, 1) := by decide +kernel
theorem dX2_putsIn_25 : decode cX2_putsIn 25 = .ok (.if_icmp .ge 26, 3) := by decide +kernel
theorem dX2_putsIn_28 : decode cX2_putsIn 28 = .ok (.aload_n 0, 1) := by decide +kernel
theorem dX2_putsIn_29 : decode cX2_putsIn 29 = .ok (.getfield 20, 3) := by decide +kernel
theorem dX2_putsIn_32 : decode cX2_putsIn 32 = .ok (.iload_n 1, 1) := by decide +kernel
theorem dX2_putsIn_33 : decode cX2_putsIn 33 = .ok (.iload 4, 2) := by decide +kernel
theorem dX2_putsIn_35 : decode cX2_putsIn 35 = .ok (.iadd, 1) := by decide +kernel
theorem dX2_putsIn_36 : decode cX2_putsIn 36 = .ok (.aload_n 2, 1) := by decide +kernel
theorem dX2_putsIn_37 : decode cX2_putsIn 37 = .ok (.iload 4, 2) := by decide +kernel
theorem dX2_putsIn_39 : decode cX2_putsIn 39 = .ok (.invokevirtual 54, 3) := by decide +kernel
theorem dX2_putsIn_42 : decode cX2_putsIn 42 = .ok (.invokevirtual 62, 3) := by decide +kernel
theorem dX2_putsIn_45 : decode cX2_putsIn 45 = .ok (.iinc 4 1, 3) := by decide +kernel
theorem dX2_putsIn_48 : decode cX2_putsIn 48 = .ok (.goto (-26), 3) := by decide +kernel
theorem dX2_putsIn_51 : decode cX2_putsIn 51 = .ok (.aload_n 0, 1) := by decide +kernel
theorem dX2_putsIn_52 : decode cX2_putsIn 52 = .ok (.iload_n 1, 1) := by decide +kernel
theorem dX2_putsIn_53 : decode cX2_putsIn 53 = .ok (.iload_n 3, 1) := by decide +kernel
theorem dX2_putsIn_54 : decode cX2_putsIn 54 = .ok (.invokevirtual 72, 3) := by decide +kernel
theorem dX2_putsIn_57 : decode cX2_putsIn 57 = .ok (.iconst 0, 1) := by decide +kernel
theorem dX2_putsIn_58 : decode cX2_putsIn 58 = .ok (.istore 4, 2) := by decide +kernel
theorem dX2_putsIn_60 : decode cX2_putsIn 60 = .ok (.iload 4, 2) := by decide +kernel
theorem dX2_putsIn_62 : decode cX2_putsIn 62 = .ok (.bipush 26, 2) := by decide +kernel
theorem dX2_putsIn_64 : decode cX2_putsIn 64 = .ok (.if_icmp .ge 32, 3) := by decide +kernel
theorem dX2_putsIn_67 : decode cX2_putsIn 67 = .ok (.aload_n 0, 1) := by decide +kernel
theorem dX2_putsIn_68 : decode cX2_putsIn 68 = .ok (.getfield 14, 3) := by decide +kernel
theorem dX2_putsIn_71 : decode cX2_putsIn 71 = .ok (.iload 4, 2) := by decide +kernel
theorem dX2_putsIn_73 : decode cX2_putsIn 73 = .ok (.aload_n 0, 1) := by decide +kernel
theorem dX2_putsIn_74 : decode cX2_putsIn 74 = .ok (.getfield 14, 3) := by decide +kernel
theorem dX2_putsIn_77 : decode cX2_putsIn 77 = .ok (.iload 4, 2) := by decide +kernel
theorem dX2_putsIn_79 : decode cX2_putsIn 79 = .ok (.invokevirtual 54, 3) := by decide +kernel
theorem dX2_putsIn_82 : decode cX2_putsIn 82 = .ok (.iload_n 1, 1) := by decide +kernel
theorem dX2_putsIn_83 : decode cX2_putsIn 83 = .ok (.iload_n 3, 1) := by decide +kernel
theorem dX2_putsIn_84 : decode cX2_putsIn 84 = .ok (.invokestatic 75, 3) := by decide +kernel
theorem dX2_putsIn_87 : decode cX2_putsIn 87 = .ok (.invokevirtual 62, 3) := by decide +kernel
theorem dX2_putsIn_90 : decode cX2_putsIn 90 = .ok (.iinc 4 1, 3) := by decide +kernel
theorem dX2_putsIn_93 : decode cX2_putsIn 93 = .ok (.goto (-33), 3) := by decide +kernel
theorem dX2_putsIn_96 : decode cX2_putsIn 96 = .ok (.aload_n 0, 1) := by decide +kernel
theorem dX2_putsIn_97 : decode cX2_putsIn 97 = .ok (.aload_n 0, 1) := by decide +kernel
theorem dX2_putsIn_98 : decode cX2_putsIn 98 = .ok (.getfield 33, 3) := by decide +kernel
theorem dX2_putsIn_101 : decode cX2_putsIn 101 = .ok (.iload_n 1, 1) := by decide +kernel
theorem dX2_putsIn_102 : decode cX2_putsIn 102 = .ok (.iload_n 3, 1) := by decide +kernel
theorem dX2_putsIn_103 : decode cX2_putsIn 103 = .ok (.invokestatic 75, 3) := by decide +kernel
theorem dX2_putsIn_106 : decode cX2_putsIn 106 = .ok (.putfield 33, 3) := by decide +kernel
theorem dX2_putsIn_109 : decode cX2_putsIn 109 = .ok (.return_, 1) := by decide +kernel
theorem dX2_placeAfterTaking_0 : decode cX2_placeAfterTaking 0 = .ok (.iload_n 0, 1) := by decide +kernel
theorem dX2_placeAfterTaking_1 : decode cX2_placeAfterTaking 1 = .ok (.iload_n 1, 1) := by decide +kernel
theorem dX2_placeAfterTaking_2 : decode cX2_placeAfterTaking 2 = .ok (.if_icmp .gt 7, 3) := by decide +kernel
theorem dX2_placeAfterTaking_5 : decode cX2_placeAfterTaking 5 = .ok (.iload_n 0, 1) := by decide +kernel
theorem dX2_placeAfterTaking_6 : decode cX2_placeAfterTaking 6 = .ok (.goto 10, 3) := by decide +kernel
theorem dX2_placeAfterTaking_9 : decode cX2_placeAfterTaking 9 = .ok (.iload_n 1, 1) := by decide +kernel
theorem dX2_placeAfterTaking_10 : decode cX2_placeAfterTaking 10 = .ok (.iload_n 0, 1) := by decide +kernel
theorem dX2_placeAfterTaking_11 : decode cX2_placeAfterTaking 11 = .ok (.iload_n 2, 1) := by decide +kernel
theorem dX2_placeAfterTaking_12 : decode cX2_placeAfterTaking 12 = .ok (.isub, 1) := by decide +kernel
theorem dX2_placeAfterTaking_13 : decode cX2_placeAfterTaking 13 = .ok (.invokestatic 78, 3) := by decide +kernel
theorem dX2_placeAfterTaking_16 : decode cX2_placeAfterTaking 16 = .ok (.ireturn, 1) := by decide +kernel
theorem dX2_placeAfterPutting_0 : decode cX2_placeAfterPutting 0 = .ok (.iload_n 0, 1) := by decide +kernel
theorem dX2_placeAfterPutting_1 : decode cX2_placeAfterPutting 1 = .ok (.iload_n 1, 1) := by decide +kernel
theorem dX2_placeAfterPutting_2 : decode cX2_placeAfterPutting 2 = .ok (.if_icmp .gt 7, 3) := by decide +kernel
theorem dX2_placeAfterPutting_5 : decode cX2_placeAfterPutting 5 = .ok (.iload_n 0, 1) := by decide +kernel
theorem dX2_placeAfterPutting_6 : decode cX2_placeAfterPutting 6 = .ok (.goto 6, 3) := by decide +kernel
theorem dX2_placeAfterPutting_9 : decode cX2_placeAfterPutting 9 = .ok (.iload_n 0, 1) := by decide +kernel
theorem dX2_placeAfterPutting_10 : decode cX2_placeAfterPutting 10 = .ok (.iload_n 2, 1) := by decide +kernel
theorem dX2_placeAfterPutting_11 : decode cX2_placeAfterPutting 11 = .ok (.iadd, 1) := by decide +kernel
theorem dX2_placeAfterPutting_12 : decode cX2_placeAfterPutting 12 = .ok (.ireturn, 1) := by decide +kernel
theorem dX2_shrinksChunks_0 : decode cX2_shrinksChunks 0 = .ok (.iconst 0, 1) := by decide +kernel
theorem dX2_shrinksChunks_1 : decode cX2_shrinksChunks 1 = .ok (.istore_n 3, 1) := by decide +kernel
theorem dX2_shrinksChunks_2 : decode cX2_shrinksChunks 2 = .ok (.iconst 0, 1) := by decide +kernel
theorem dX2_shrinksChunks_3 : decode cX2_shrinksChunks 3 = .ok (.istore 4, 2) := by decide +kernel
theorem dX2_shrinksChunks_5 : decode cX2_shrinksChunks 5 = .ok (.iconst 0, 1) := by decide +kernel
theorem dX2_shrinksChunks_6 : decode cX2_shrinksChunks 6 = .ok (.istore 5, 2) := by decide +kernel
theorem dX2_shrinksChunks_8 : decode cX2_shrinksChunks 8 = .ok (.iload 5, 2) := by decide +kernel
theorem dX2_shrinksChunks_10 : decode cX2_shrinksChunks 10 = .ok (.aload_n 0, 1) := by decide +kernel
theorem dX2_shrinksChunks_11 : decode cX2_shrinksChunks 11 = .ok (.getfield 23, 3) := by decide +kernel
theorem dX2_shrinksChunks_14 : decode cX2_shrinksChunks 14 = .ok (.invokevirtual 65, 3) := by decide +kernel
theorem dX2_shrinksChunks_17 : decode cX2_shrinksChunks 17 = .ok (.if_icmp .ge 73, 3) := by decide +kernel
theorem dX2_shrinksChunks_20 : decode cX2_shrinksChunks 20 = .ok (.aload_n 0, 1) := by decide +kernel
theorem dX2_shrinksChunks_21 : decode cX2_shrinksChunks 21 = .ok (.getfield 23, 3) := by decide +kernel
theorem dX2_shrinksChunks_24 : decode cX2_shrinksChunks 24 = .ok (.iload 5, 2) := by decide +kernel
theorem dX2_shrinksChunks_26 : decode cX2_shrinksChunks 26 = .ok (.invokevirtual 54, 3) := by decide +kernel
theorem dX2_shrinksChunks_29 : decode cX2_shrinksChunks 29 = .ok (.istore 6, 2) := by decide +kernel
theorem dX2_shrinksChunks_31 : decode cX2_shrinksChunks 31 = .ok (.iload_n 3, 1) := by decide +kernel
theorem dX2_shrinksChunks_32 : decode cX2_shrinksChunks 32 = .ok (.iload 6, 2) := by decide +kernel
theorem dX2_shrinksChunks_34 : decode cX2_shrinksChunks 34 = .ok (.iadd, 1) := by decide +kernel
theorem dX2_shrinksChunks_35 : decode cX2_shrinksChunks 35 = .ok (.iload_n 1, 1) := by decide +kernel
theorem dX2_shrinksChunks_36 : decode cX2_shrinksChunks 36 = .ok (.iload_n 2, 1) := by decide +kernel
theorem dX2_shrinksChunks_37 : decode cX2_shrinksChunks 37 = .ok (.iadd, 1) := by decide +kernel
theorem dX2_shrinksChunks_38 : decode cX2_shrinksChunks 38 = .ok (.invokestatic 84, 3) := by decide +kernel
theorem dX2_shrinksChunks_41 : decode cX2_shrinksChunks 41 = .ok (.iload_n 3, 1) := by decide +kernel
theorem dX2_shrinksChunks_42 : decode cX2_shrinksChunks 42 = .ok (.iload_n 1, 1) := by decide +kernel
theorem dX2_shrinksChunks_43 : decode cX2_shrinksChunks 43 = .ok (.invokestatic 78, 3) := by decide +kernel
theorem dX2_shrinksChunks_46 : decode cX2_shrinksChunks 46 = .ok (.isub, 1) := by decide +kernel
theorem dX2_shrinksChunks_47 : decode cX2_shrinksChunks 47 = .ok (.istore 7, 2) := by decide +kernel
theorem dX2_shrinksChunks_49 : decode cX2_shrinksChunks 49 = .ok (.iload 6, 2) := by decide +kernel
theorem dX2_shrinksChunks_51 : decode cX2_shrinksChunks 51 = .ok (.iload 7, 2) := by decide +kernel
theorem dX2_shrinksChunks_53 : decode cX2_shrinksChunks 53 = .ok (.iconst 0, 1) := by decide +kernel
theorem dX2_shrinksChunks_54 : decode cX2_shrinksChunks 54 = .ok (.invokestatic 78, 3) := by decide +kernel
theorem dX2_shrinksChunks_57 : decode cX2_shrinksChunks 57 = .ok (.isub, 1) := by decide +kernel
theorem dX2_shrinksChunks_58 : decode cX2_shrinksChunks 58 = .ok (.istore 8, 2) := by decide +kernel
theorem dX2_shrinksChunks_60 : decode cX2_shrinksChunks 60 = .ok (.iload 8, 2) := by decide +kernel
theorem dX2_shrinksChunks_62 : decode cX2_shrinksChunks 62 = .ok (.ifCond .le 17, 3) := by decide +kernel
theorem dX2_shrinksChunks_65 : decode cX2_shrinksChunks 65 = .ok (.aload_n 0, 1) := by decide +kernel
theorem dX2_shrinksChunks_66 : decode cX2_shrinksChunks 66 = .ok (.getfield 23, 3) := by decide +kernel
theorem dX2_shrinksChunks_69 : decode cX2_shrinksChunks 69 = .ok (.iload 4, 2) := by decide +kernel
theorem dX2_shrinksChunks_71 : decode cX2_shrinksChunks 71 = .ok (.iload 8, 2) := by decide +kernel
theorem dX2_shrinksChunks_73 : decode cX2_shrinksChunks 73 = .ok (.invokevirtual 62, 3) := by decide +kernel
theorem dX2_shrinksChunks_76 : decode cX2_shrinksChunks 76 = .ok (.iinc 4 1, 3) := by decide +kernel
theorem dX2_shrinksChunks_79 : decode cX2_shrinksChunks 79 = .ok (.iload_n 3, 1) := by decide +kernel
theorem dX2_shrinksChunks_80 : decode cX2_shrinksChunks 80 = .ok (.iload 6, 2) := by decide +kernel
theorem dX2_shrinksChunks_82 : decode cX2_shrinksChunks 82 = .ok (.iadd, 1) := by decide +kernel
theorem dX2_shrinksChunks_83 : decode cX2_shrinksChunks 83 = .ok (.istore_n 3, 1) := by decide +kernel
theorem dX2_shrinksChunks_84 : decode cX2_shrinksChunks 84 = .ok (.iinc 5 1, 3) := by decide +kernel
theorem dX2_shrinksChunks_87 : decode cX2_shrinksChunks 87 = .ok (.goto (-79), 3) := by decide +kernel
theorem dX2_shrinksChunks_90 : decode cX2_shrinksChunks 90 = .ok (.aload_n 0, 1) := by decide +kernel
theorem dX2_shrinksChunks_91 : decode cX2_shrinksChunks 91 = .ok (.getfield 23, 3) := by decide +kernel
theorem dX2_shrinksChunks_94 : decode cX2_shrinksChunks 94 = .ok (.iload 4, 2) := by decide +kernel
theorem dX2_shrinksChunks_96 : decode cX2_shrinksChunks 96 = .ok (.invokevirtual 87, 3) := by decide +kernel
theorem dX2_shrinksChunks_99 : decode cX2_shrinksChunks 99 = .ok (.return_, 1) := by decide +kernel
theorem dX2_joinsChunks_0 : decode cX2_joinsChunks 0 = .ok (.aload_n 0, 1) := by decide +kernel
theorem dX2_joinsChunks_1 : decode cX2_joinsChunks 1 = .ok (.iload_n 1, 1) := by decide +kernel
theorem dX2_joinsChunks_2 : decode cX2_joinsChunks 2 = .ok (.invokevirtual 90, 3) := by decide +kernel
theorem dX2_joinsChunks_5 : decode cX2_joinsChunks 5 = .ok (.istore_n 2, 1) := by decide +kernel
theorem dX2_joinsChunks_6 : decode cX2_joinsChunks 6 = .ok (.aload_n 0, 1) := by decide +kernel
theorem dX2_joinsChunks_7 : decode cX2_joinsChunks 7 = .ok (.getfield 23, 3) := by decide +kernel
theorem dX2_joinsChunks_10 : decode cX2_joinsChunks 10 = .ok (.iload_n 2, 1) := by decide +kernel
theorem dX2_joinsChunks_11 : decode cX2_joinsChunks 11 = .ok (.invokevirtual 54, 3) := by decide +kernel
theorem dX2_joinsChunks_14 : decode cX2_joinsChunks 14 = .ok (.aload_n 0, 1) := by decide +kernel
theorem dX2_joinsChunks_15 : decode cX2_joinsChunks 15 = .ok (.getfield 23, 3) := by decide +kernel
theorem dX2_joinsChunks_18 : decode cX2_joinsChunks 18 = .ok (.iload_n 2, 1) := by decide +kernel
theorem dX2_joinsChunks_19 : decode cX2_joinsChunks 19 = .ok (.iconst 1, 1) := by decide +kernel
theorem dX2_joinsChunks_20 : decode cX2_joinsChunks 20 = .ok (.iadd, 1) := by decide +kernel
theorem dX2_joinsChunks_21 : decode cX2_joinsChunks 21 = .ok (.invokevirtual 54, 3) := by decide +kernel
theorem dX2_joinsChunks_24 : decode cX2_joinsChunks 24 = .ok (.iadd, 1) := by decide +kernel
theorem dX2_joinsChunks_25 : decode cX2_joinsChunks 25 = .ok (.istore_n 3, 1) := by decide +kernel
theorem dX2_joinsChunks_26 : decode cX2_joinsChunks 26 = .ok (.iload_n 2, 1) := by decide +kernel
theorem dX2_joinsChunks_27 : decode cX2_joinsChunks 27 = .ok (.iconst 1, 1) := by decide +kernel
theorem dX2_joinsChunks_28 : decode cX2_joinsChunks 28 = .ok (.iadd, 1) := by decide +kernel
theorem dX2_joinsChunks_29 : decode cX2_joinsChunks 29 = .ok (.aload_n 0, 1) := by decide +kernel
theorem dX2_joinsChunks_30 : decode cX2_joinsChunks 30 = .ok (.getfield 23, 3) := by decide +kernel
theorem dX2_joinsChunks_33 : decode cX2_joinsChunks 33 = .ok (.invokevirtual 65, 3) := by decide +kernel
theorem dX2_joinsChunks_36 : decode cX2_joinsChunks 36 = .ok (.if_icmp .ge 29, 3) := by decide +kernel
theorem dX2_joinsChunks_39 : decode cX2_joinsChunks 39 = .ok (.iload_n 3, 1) := by decide +kernel
theorem dX2_joinsChunks_40 : decode cX2_joinsChunks 40 = .ok (.bipush 8, 2) := by decide +kernel
theorem dX2_joinsChunks_42 : decode cX2_joinsChunks 42 = .ok (.if_icmp .gt 23, 3) := by decide +kernel
theorem dX2_joinsChunks_45 : decode cX2_joinsChunks 45 = .ok (.aload_n 0, 1) := by decide +kernel
theorem dX2_joinsChunks_46 : decode cX2_joinsChunks 46 = .ok (.getfield 23, 3) := by decide +kernel
theorem dX2_joinsChunks_49 : decode cX2_joinsChunks 49 = .ok (.iload_n 2, 1) := by decide +kernel
theorem dX2_joinsChunks_50 : decode cX2_joinsChunks 50 = .ok (.iload_n 3, 1) := by decide +kernel
theorem dX2_joinsChunks_51 : decode cX2_joinsChunks 51 = .ok (.invokevirtual 62, 3) := by decide +kernel
theorem dX2_joinsChunks_54 : decode cX2_joinsChunks 54 = .ok (.aload_n 0, 1) := by decide +kernel
theorem dX2_joinsChunks_55 : decode cX2_joinsChunks 55 = .ok (.getfield 23, 3) := by decide +kernel
theorem dX2_joinsChunks_58 : decode cX2_joinsChunks 58 = .ok (.iload_n 2, 1) := by decide +kernel
theorem dX2_joinsChunks_59 : decode cX2_joinsChunks 59 = .ok (.iconst 1, 1) := by decide +kernel
theorem dX2_joinsChunks_60 : decode cX2_joinsChunks 60 = .ok (.iadd, 1) := by decide +kernel
theorem dX2_joinsChunks_61 : decode cX2_joinsChunks 61 = .ok (.iconst 1, 1) := by decide +kernel
theorem dX2_joinsChunks_62 : decode cX2_joinsChunks 62 = .ok (.invokevirtual 45, 3) := by decide +kernel
theorem dX2_joinsChunks_65 : decode cX2_joinsChunks 65 = .ok (.return_, 1) := by decide +kernel
theorem dX2_growsChunk_0 : decode cX2_growsChunk 0 = .ok (.aload_n 0, 1) := by decide +kernel
theorem dX2_growsChunk_1 : decode cX2_growsChunk 1 = .ok (.getfield 23, 3) := by decide +kernel
theorem dX2_growsChunk_4 : decode cX2_growsChunk 4 = .ok (.invokevirtual 65, 3) := by decide +kernel
theorem dX2_growsChunk_7 : decode cX2_growsChunk 7 = .ok (.ifCond .ne 11, 3) := by decide +kernel
theorem dX2_growsChunk_10 : decode cX2_growsChunk 10 = .ok (.aload_n 0, 1) := by decide +kernel
theorem dX2_growsChunk_11 : decode cX2_growsChunk 11 = .ok (.getfield 23, 3) := by decide +kernel
theorem dX2_growsChunk_14 : decode cX2_growsChunk 14 = .ok (.iconst 0, 1) := by decide +kernel
theorem dX2_growsChunk_15 : decode cX2_growsChunk 15 = .ok (.invokevirtual 26, 3) := by decide +kernel
theorem dX2_growsChunk_18 : decode cX2_growsChunk 18 = .ok (.aload_n 0, 1) := by decide +kernel
theorem dX2_growsChunk_19 : decode cX2_growsChunk 19 = .ok (.iload_n 1, 1) := by decide +kernel
theorem dX2_growsChunk_20 : decode cX2_growsChunk 20 = .ok (.invokevirtual 90, 3) := by decide +kernel
theorem dX2_growsChunk_23 : decode cX2_growsChunk 23 = .ok (.istore_n 3, 1) := by decide +kernel
theorem dX2_growsChunk_24 : decode cX2_growsChunk 24 = .ok (.aload_n 0, 1) := by decide +kernel
theorem dX2_growsChunk_25 : decode cX2_growsChunk 25 = .ok (.getfield 23, 3) := by decide +kernel
theorem dX2_growsChunk_28 : decode cX2_growsChunk 28 = .ok (.iload_n 3, 1) := by decide +kernel
theorem dX2_growsChunk_29 : decode cX2_growsChunk 29 = .ok (.invokevirtual 54, 3) := by decide +kernel
theorem dX2_growsChunk_32 : decode cX2_growsChunk 32 = .ok (.iload_n 2, 1) := by decide +kernel
theorem dX2_growsChunk_33 : decode cX2_growsChunk 33 = .ok (.iadd, 1) := by decide +kernel
theorem dX2_growsChunk_34 : decode cX2_growsChunk 34 = .ok (.istore 4, 2) := by decide +kernel
theorem dX2_growsChunk_36 : decode cX2_growsChunk 36 = .ok (.aload_n 0, 1) := by decide +kernel
theorem dX2_growsChunk_37 : decode cX2_growsChunk 37 = .ok (.getfield 23, 3) := by decide +kernel
theorem dX2_growsChunk_40 : decode cX2_growsChunk 40 = .ok (.iload_n 3, 1) := by decide +kernel
theorem dX2_growsChunk_41 : decode cX2_growsChunk 41 = .ok (.iload 4, 2) := by decide +kernel
theorem dX2_growsChunk_43 : decode cX2_growsChunk 43 = .ok (.invokevirtual 62, 3) := by decide +kernel
theorem dX2_growsChunk_46 : decode cX2_growsChunk 46 = .ok (.aload_n 0, 1) := by decide +kernel
theorem dX2_growsChunk_47 : decode cX2_growsChunk 47 = .ok (.iload_n 3, 1) := by decide +kernel
theorem dX2_growsChunk_48 : decode cX2_growsChunk 48 = .ok (.iload 4, 2) := by decide +kernel
theorem dX2_growsChunk_50 : decode cX2_growsChunk 50 = .ok (.invokevirtual 93, 3) := by decide +kernel
theorem dX2_growsChunk_53 : decode cX2_growsChunk 53 = .ok (.return_, 1) := by decide +kernel
theorem dX2_splitsChunk_0 : decode cX2_splitsChunk 0 = .ok (.iload_n 2, 1) := by decide +kernel
theorem dX2_splitsChunk_1 : decode cX2_splitsChunk 1 = .ok (.bipush 8, 2) := by decide +kernel
theorem dX2_splitsChunk_3 : decode cX2_splitsChunk 3 = .ok (.iadd, 1) := by decide +kernel
theorem dX2_splitsChunk_4 : decode cX2_splitsChunk 4 = .ok (.iconst 1, 1) := by decide +kernel
theorem dX2_splitsChunk_5 : decode cX2_splitsChunk 5 = .ok (.isub, 1) := by decide +kernel
theorem dX2_splitsChunk_6 : decode cX2_splitsChunk 6 = .ok (.bipush 8, 2) := by decide +kernel
theorem dX2_splitsChunk_8 : decode cX2_splitsChunk 8 = .ok (.idiv, 1) := by decide +kernel
theorem dX2_splitsChunk_9 : decode cX2_splitsChunk 9 = .ok (.istore_n 3, 1) := by decide +kernel
theorem dX2_splitsChunk_10 : decode cX2_splitsChunk 10 = .ok (.iload_n 3, 1) := by decide +kernel
theorem dX2_splitsChunk_11 : decode cX2_splitsChunk 11 = .ok (.iconst 2, 1) := by decide +kernel
theorem dX2_splitsChunk_12 : decode cX2_splitsChunk 12 = .ok (.if_icmp .ge 4, 3) := by decide +kernel
theorem dX2_splitsChunk_15 : decode cX2_splitsChunk 15 = .ok (.return_, 1) := by decide +kernel
theorem dX2_splitsChunk_16 : decode cX2_splitsChunk 16 = .ok (.iload_n 2, 1) := by decide +kernel
theorem dX2_splitsChunk_17 : decode cX2_splitsChunk 17 = .ok (.iload_n 3, 1) := by decide +kernel
theorem dX2_splitsChunk_18 : decode cX2_splitsChunk 18 = .ok (.idiv, 1) := by decide +kernel
theorem dX2_splitsChunk_19 : decode cX2_splitsChunk 19 = .ok (.istore 4, 2) := by decide +kernel
theorem dX2_splitsChunk_21 : decode cX2_splitsChunk 21 = .ok (.iload_n 2, 1) := by decide +kernel
theorem dX2_splitsChunk_22 : decode cX2_splitsChunk 22 = .ok (.iload_n 3, 1) := by decide +kernel
theorem dX2_splitsChunk_23 : decode cX2_splitsChunk 23 = .ok (.irem, 1) := by decide +kernel
theorem dX2_splitsChunk_24 : decode cX2_splitsChunk 24 = .ok (.istore 5, 2) := by decide +kernel
theorem dX2_splitsChunk_26 : decode cX2_splitsChunk 26 = .ok (.aload_n 0, 1) := by decide +kernel
theorem dX2_splitsChunk_27 : decode cX2_splitsChunk 27 = .ok (.getfield 23, 3) := by decide +kernel
theorem dX2_splitsChunk_30 : decode cX2_splitsChunk 30 = .ok (.iload_n 1, 1) := by decide +kernel
theorem dX2_splitsChunk_31 : decode cX2_splitsChunk 31 = .ok (.iload_n 3, 1) := by decide +kernel
theorem dX2_splitsChunk_32 : decode cX2_splitsChunk 32 = .ok (.iconst 1, 1) := by decide +kernel
theorem dX2_splitsChunk_33 : decode cX2_splitsChunk 33 = .ok (.isub, 1) := by decide +kernel
theorem dX2_splitsChunk_34 : decode cX2_splitsChunk 34 = .ok (.invokevirtual 69, 3) := by decide +kernel
theorem dX2_splitsChunk_37 : decode cX2_splitsChunk 37 = .ok (.iconst 0, 1) := by decide +kernel
theorem dX2_splitsChunk_38 : decode cX2_splitsChunk 38 = .ok (.istore 6, 2) := by decide +kernel
theorem dX2_splitsChunk_40 : decode cX2_splitsChunk 40 = .ok (.iload 6, 2) := by decide +kernel
theorem dX2_splitsChunk_42 : decode cX2_splitsChunk 42 = .ok (.iload_n 3, 1) := by decide +kernel
theorem dX2_splitsChunk_43 : decode cX2_splitsChunk 43 = .ok (.if_icmp .ge 36, 3) := by decide +kernel
theorem dX2_splitsChunk_46 : decode cX2_splitsChunk 46 = .ok (.aload_n 0, 1) := by decide +kernel
theorem dX2_splitsChunk_47 : decode cX2_splitsChunk 47 = .ok (.getfield 23, 3) := by decide +kernel
theorem dX2_splitsChunk_50 : decode cX2_splitsChunk 50 = .ok (.iload_n 1, 1) := by decide +kernel
theorem dX2_splitsChunk_51 : decode cX2_splitsChunk 51 = .ok (.iload 6, 2) := by decide +kernel
theorem dX2_splitsChunk_53 : decode cX2_splitsChunk 53 = .ok (.iadd, 1) := by decide +kernel
theorem dX2_splitsChunk_54 : decode cX2_splitsChunk 54 = .ok (.iload 6, 2) := by decide +kernel
theorem dX2_splitsChunk_56 : decode cX2_splitsChunk 56 = .ok (.iload 5, 2) := by decide +kernel
theorem dX2_splitsChunk_58 : decode cX2_splitsChunk 58 = .ok (.if_icmp .ge 10, 3) := by decide +kernel
theorem dX2_splitsChunk_61 : decode cX2_splitsChunk 61 = .ok (.iload 4, 2) := by decide +kernel
theorem dX2_splitsChunk_63 : decode cX2_splitsChunk 63 = .ok (.iconst 1, 1) := by decide +kernel
theorem dX2_splitsChunk_64 : decode cX2_splitsChunk 64 = .ok (.iadd, 1) := by decide +kernel
theorem dX2_splitsChunk_65 : decode cX2_splitsChunk 65 = .ok (.goto 5, 3) := by decide +kernel
theorem dX2_splitsChunk_68 : decode cX2_splitsChunk 68 = .ok (.iload 4, 2) := by decide +kernel
theorem dX2_splitsChunk_70 : decode cX2_splitsChunk 70 = .ok (.invokevirtual 62, 3) := by decide +kernel
theorem dX2_splitsChunk_73 : decode cX2_splitsChunk 73 = .ok (.iinc 6 1, 3) := by decide +kernel
theorem dX2_splitsChunk_76 : decode cX2_splitsChunk 76 = .ok (.goto (-36), 3) := by decide +kernel
theorem dX2_splitsChunk_79 : decode cX2_splitsChunk 79 = .ok (.return_, 1) := by decide +kernel
theorem dX2_chunkOfByteAhead_0 : decode cX2_chunkOfByteAhead 0 = .ok (.iconst 0, 1) := by decide +kernel
theorem dX2_chunkOfByteAhead_1 : decode cX2_chunkOfByteAhead 1 = .ok (.istore_n 2, 1) := by decide +kernel
theorem dX2_chunkOfByteAhead_2 : decode cX2_chunkOfByteAhead 2 = .ok (.iconst 0, 1) := by decide +kernel
theorem dX2_chunkOfByteAhead_3 : decode cX2_chunkOfByteAhead 3 = .ok (.istore_n 3, 1) := by decide +kernel
theorem dX2_chunkOfByteAhead_4 : decode cX2_chunkOfByteAhead 4 = .ok (.iload_n 3, 1) := by decide +kernel
theorem dX2_chunkOfByteAhead_5 : decode cX2_chunkOfByteAhead 5 = .ok (.aload_n 0, 1) := by decide +kernel
theorem dX2_chunkOfByteAhead_6 : decode cX2_chunkOfByteAhead 6 = .ok (.getfield 23, 3) := by decide +kernel
theorem dX2_chunkOfByteAhead_9 : decode cX2_chunkOfByteAhead 9 = .ok (.invokevirtual 65, 3) := by decide +kernel
theorem dX2_chunkOfByteAhead_12 : decode cX2_chunkOfByteAhead 12 = .ok (.if_icmp .ge 27, 3) := by decide +kernel
theorem dX2_chunkOfByteAhead_15 : decode cX2_chunkOfByteAhead 15 = .ok (.iload_n 2, 1) := by decide +kernel
theorem dX2_chunkOfByteAhead_16 : decode cX2_chunkOfByteAhead 16 = .ok (.aload_n 0, 1) := by decide +kernel
theorem dX2_chunkOfByteAhead_17 : decode cX2_chunkOfByteAhead 17 = .ok (.getfield 23, 3) := by decide +kernel
theorem dX2_chunkOfByteAhead_20 : decode cX2_chunkOfByteAhead 20 = .ok (.iload_n 3, 1) := by decide +kernel
theorem dX2_chunkOfByteAhead_21 : decode cX2_chunkOfByteAhead 21 = .ok (.invokevirtual 54, 3) := by decide +kernel
theorem dX2_chunkOfByteAhead_24 : decode cX2_chunkOfByteAhead 24 = .ok (.iadd, 1) := by decide +kernel
theorem dX2_chunkOfByteAhead_25 : decode cX2_chunkOfByteAhead 25 = .ok (.istore_n 2, 1) := by decide +kernel
theorem dX2_chunkOfByteAhead_26 : decode cX2_chunkOfByteAhead 26 = .ok (.iload_n 1, 1) := by decide +kernel
theorem dX2_chunkOfByteAhead_27 : decode cX2_chunkOfByteAhead 27 = .ok (.iload_n 2, 1) := by decide +kernel
theorem dX2_chunkOfByteAhead_28 : decode cX2_chunkOfByteAhead 28 = .ok (.if_icmp .gt 5, 3) := by decide +kernel
theorem dX2_chunkOfByteAhead_31 : decode cX2_chunkOfByteAhead 31 = .ok (.iload_n 3, 1) := by decide +kernel
theorem dX2_chunkOfByteAhead_32 : decode cX2_chunkOfByteAhead 32 = .ok (.ireturn, 1) := by decide +kernel
theorem dX2_chunkOfByteAhead_33 : decode cX2_chunkOfByteAhead 33 = .ok (.iinc 3 1, 3) := by decide +kernel
theorem dX2_chunkOfByteAhead_36 : decode cX2_chunkOfByteAhead 36 = .ok (.goto (-32), 3) := by decide +kernel
theorem dX2_chunkOfByteAhead_39 : decode cX2_chunkOfByteAhead 39 = .ok (.iconst 0, 1) := by decide +kernel
theorem dX2_chunkOfByteAhead_40 : decode cX2_chunkOfByteAhead 40 = .ok (.ireturn, 1) := by decide +kernel
theorem dX2_chunkBegin_0 : decode cX2_chunkBegin 0 = .ok (.iconst 0, 1) := by decide +kernel
theorem dX2_chunkBegin_1 : decode cX2_chunkBegin 1 = .ok (.istore_n 2, 1) := by decide +kernel
theorem dX2_chunkBegin_2 : decode cX2_chunkBegin 2 = .ok (.iconst 0, 1) := by decide +kernel
theorem dX2_chunkBegin_3 : decode cX2_chunkBegin 3 = .ok (.istore_n 3, 1) := by decide +kernel
theorem dX2_chunkBegin_4 : decode cX2_chunkBegin 4 = .ok (.iload_n 3, 1) := by decide +kernel
theorem dX2_chunkBegin_5 : decode cX2_chunkBegin 5 = .ok (.iload_n 1, 1) := by decide +kernel
theorem dX2_chunkBegin_6 : decode cX2_chunkBegin 6 = .ok (.if_icmp .ge 31, 3) := by decide +kernel
theorem dX2_chunkBegin_9 : decode cX2_chunkBegin 9 = .ok (.iload_n 3, 1) := by decide +kernel
theorem dX2_chunkBegin_10 : decode cX2_chunkBegin 10 = .ok (.aload_n 0, 1) := by decide +kernel
theorem dX2_chunkBegin_11 : decode cX2_chunkBegin 11 = .ok (.getfield 23, 3) := by decide +kernel
theorem dX2_chunkBegin_14 : decode cX2_chunkBegin 14 = .ok (.invokevirtual 65, 3) := by decide +kernel
theorem dX2_chunkBegin_17 : decode cX2_chunkBegin 17 = .ok (.if_icmp .ge 20, 3) := by decide +kernel
theorem dX2_chunkBegin_20 : decode cX2_chunkBegin 20 = .ok (.iload_n 2, 1) := by decide +kernel
theorem dX2_chunkBegin_21 : decode cX2_chunkBegin 21 = .ok (.aload_n 0, 1) := by decide +kernel
theorem dX2_chunkBegin_22 : decode cX2_chunkBegin 22 = .ok (.getfield 23, 3) := by decide +kernel
theorem dX2_chunkBegin_25 : decode cX2_chunkBegin 25 = .ok (.iload_n 3, 1) := by decide +kernel
theorem dX2_chunkBegin_26 : decode cX2_chunkBegin 26 = .ok (.invokevirtual 54, 3) := by decide +kernel
theorem dX2_chunkBegin_29 : decode cX2_chunkBegin 29 = .ok (.iadd, 1) := by decide +kernel
theorem dX2_chunkBegin_30 : decode cX2_chunkBegin 30 = .ok (.istore_n 2, 1) := by decide +kernel
theorem dX2_chunkBegin_31 : decode cX2_chunkBegin 31 = .ok (.iinc 3 1, 3) := by decide +kernel
theorem dX2_chunkBegin_34 : decode cX2_chunkBegin 34 = .ok (.goto (-30), 3) := by decide +kernel
theorem dX2_chunkBegin_37 : decode cX2_chunkBegin 37 = .ok (.iload_n 2, 1) := by decide +kernel
theorem dX2_chunkBegin_38 : decode cX2_chunkBegin 38 = .ok (.ireturn, 1) := by decide +kernel
theorem dX2_markPlace_0 : decode cX2_markPlace 0 = .ok (.aload_n 0, 1) := by decide +kernel
theorem dX2_markPlace_1 : decode cX2_markPlace 1 = .ok (.getfield 14, 3) := by decide +kernel
theorem dX2_markPlace_4 : decode cX2_markPlace 4 = .ok (.iload_n 1, 1) := by decide +kernel
theorem dX2_markPlace_5 : decode cX2_markPlace 5 = .ok (.bipush 97, 2) := by decide +kernel
theorem dX2_markPlace_7 : decode cX2_markPlace 7 = .ok (.isub, 1) := by decide +kernel
theorem dX2_markPlace_8 : decode cX2_markPlace 8 = .ok (.invokevirtual 54, 3) := by decide +kernel
theorem dX2_markPlace_11 : decode cX2_markPlace 11 = .ok (.ireturn, 1) := by decide +kernel
theorem dX2_putMark_0 : decode cX2_putMark 0 = .ok (.aload_n 0, 1) := by decide +kernel
theorem dX2_putMark_1 : decode cX2_putMark 1 = .ok (.getfield 14, 3) := by decide +kernel
theorem dX2_putMark_4 : decode cX2_putMark 4 = .ok (.iload_n 1, 1) := by decide +kernel
theorem dX2_putMark_5 : decode cX2_putMark 5 = .ok (.bipush 97, 2) := by decide +kernel
theorem dX2_putMark_7 : decode cX2_putMark 7 = .ok (.isub, 1) := by decide +kernel
theorem dX2_putMark_8 : decode cX2_putMark 8 = .ok (.iload_n 2, 1) := by decide +kernel
theorem dX2_putMark_9 : decode cX2_putMark 9 = .ok (.invokevirtual 62, 3) := by decide +kernel
theorem dX2_putMark_12 : decode cX2_putMark 12 = .ok (.return_, 1) := by decide +kernel
theorem dX2_marksSet_0 : decode cX2_marksSet 0 = .ok (.iconst 0, 1) := by decide +kernel
theorem dX2_marksSet_1 : decode cX2_marksSet 1 = .ok (.istore_n 1, 1) := by decide +kernel
theorem dX2_marksSet_2 : decode cX2_marksSet 2 = .ok (.iconst 0, 1) := by decide +kernel
theorem dX2_marksSet_3 : decode cX2_marksSet 3 = .ok (.istore_n 2, 1) := by decide +kernel
theorem dX2_marksSet_4 : decode cX2_marksSet 4 = .ok (.iload_n 2, 1) := by decide +kernel
theorem dX2_marksSet_5 : decode cX2_marksSet 5 = .ok (.bipush 26, 2) := by decide +kernel
theorem dX2_marksSet_7 : decode cX2_marksSet 7 = .ok (.if_icmp .ge 25, 3) := by decide +kernel
theorem dX2_marksSet_10 : decode cX2_marksSet 10 = .ok (.aload_n 0, 1) := by decide +kernel
theorem dX2_marksSet_11 : decode cX2_marksSet 11 = .ok (.getfield 14, 3) := by decide +kernel
theorem dX2_marksSet_14 : decode cX2_marksSet 14 = .ok (.iload_n 2, 1) := by decide +kernel
theorem dX2_marksSet_15 : decode cX2_marksSet 15 = .ok (.invokevirtual 54, 3) := by decide +kernel
theorem dX2_marksSet_18 : decode cX2_marksSet 18 = .ok (.bipush (-9), 2) := by decide +kernel
theorem dX2_marksSet_20 : decode cX2_marksSet 20 = .ok (.if_icmp .eq 6, 3) := by decide +kernel
theorem dX2_marksSet_23 : decode cX2_marksSet 23 = .ok (.iinc 1 1, 3) := by decide +kernel
theorem dX2_marksSet_26 : decode cX2_marksSet 26 = .ok (.iinc 2 1, 3) := by decide +kernel
theorem dX2_marksSet_29 : decode cX2_marksSet 29 = .ok (.goto (-25), 3) := by decide +kernel
theorem dX2_marksSet_32 : decode cX2_marksSet 32 = .ok (.iload_n 1, 1) := by decide +kernel
theorem dX2_marksSet_33 : decode cX2_marksSet 33 = .ok (.ireturn, 1) := by decide +kernel
theorem dX2_markFrom_0 : decode cX2_markFrom 0 = .ok (.bipush (-9), 2) := by decide +kernel
theorem dX2_markFrom_2 : decode cX2_markFrom 2 = .ok (.istore_n 2, 1) := by decide +kernel
theorem dX2_markFrom_3 : decode cX2_markFrom 3 = .ok (.iconst 0, 1) := by decide +kernel
theorem dX2_markFrom_4 : decode cX2_markFrom 4 = .ok (.istore_n 3, 1) := by decide +kernel
theorem dX2_markFrom_5 : decode cX2_markFrom 5 = .ok (.iconst 0, 1) := by decide +kernel
theorem dX2_markFrom_6 : decode cX2_markFrom 6 = .ok (.istore 4, 2) := by decide +kernel
theorem dX2_markFrom_8 : decode cX2_markFrom 8 = .ok (.iload 4, 2) := by decide +kernel
theorem dX2_markFrom_10 : decode cX2_markFrom 10 = .ok (.bipush 26, 2) := by decide +kernel
theorem dX2_markFrom_12 : decode cX2_markFrom 12 = .ok (.if_icmp .ge 47, 3) := by decide +kernel
theorem dX2_markFrom_15 : decode cX2_markFrom 15 = .ok (.aload_n 0, 1) := by decide +kernel
theorem dX2_markFrom_16 : decode cX2_markFrom 16 = .ok (.getfield 14, 3) := by decide +kernel
theorem dX2_markFrom_19 : decode cX2_markFrom 19 = .ok (.iload 4, 2) := by decide +kernel
theorem dX2_markFrom_21 : decode cX2_markFrom 21 = .ok (.invokevirtual 54, 3) := by decide +kernel
theorem dX2_markFrom_24 : decode cX2_markFrom 24 = .ok (.istore 5, 2) := by decide +kernel
theorem dX2_markFrom_26 : decode cX2_markFrom 26 = .ok (.iload 5, 2) := by decide +kernel
theorem dX2_markFrom_28 : decode cX2_markFrom 28 = .ok (.iload_n 1, 1) := by decide +kernel
theorem dX2_markFrom_29 : decode cX2_markFrom 29 = .ok (.if_icmp .lt 24, 3) := by decide +kernel
theorem dX2_markFrom_32 : decode cX2_markFrom 32 = .ok (.iload_n 2, 1) := by decide +kernel
theorem dX2_markFrom_33 : decode cX2_markFrom 33 = .ok (.bipush (-9), 2) := by decide +kernel
theorem dX2_markFrom_35 : decode cX2_markFrom 35 = .ok (.if_icmp .eq 9, 3) := by decide +kernel
theorem dX2_markFrom_38 : decode cX2_markFrom 38 = .ok (.iload 5, 2) := by decide +kernel
theorem dX2_markFrom_40 : decode cX2_markFrom 40 = .ok (.iload_n 3, 1) := by decide +kernel
theorem dX2_markFrom_41 : decode cX2_markFrom 41 = .ok (.if_icmp .ge 12, 3) := by decide +kernel
theorem dX2_markFrom_44 : decode cX2_markFrom 44 = .ok (.bipush 97, 2) := by decide +kernel
theorem dX2_markFrom_46 : decode cX2_markFrom 46 = .ok (.iload 4, 2) := by decide +kernel
theorem dX2_markFrom_48 : decode cX2_markFrom 48 = .ok (.iadd, 1) := by decide +kernel
theorem dX2_markFrom_49 : decode cX2_markFrom 49 = .ok (.istore_n 2, 1) := by decide +kernel
theorem dX2_markFrom_50 : decode cX2_markFrom 50 = .ok (.iload 5, 2) := by decide +kernel
theorem dX2_markFrom_52 : decode cX2_markFrom 52 = .ok (.istore_n 3, 1) := by decide +kernel
theorem dX2_markFrom_53 : decode cX2_markFrom 53 = .ok (.iinc 4 1, 3) := by decide +kernel
theorem dX2_markFrom_56 : decode cX2_markFrom 56 = .ok (.goto (-48), 3) := by decide +kernel
theorem dX2_markFrom_59 : decode cX2_markFrom 59 = .ok (.iload_n 2, 1) := by decide +kernel
theorem dX2_markFrom_60 : decode cX2_markFrom 60 = .ok (.ireturn, 1) := by decide +kernel
theorem dX2_readsLetter_0 : decode cX2_readsLetter 0 = .ok (.aload_n 0, 1) := by decide +kernel
theorem dX2_readsLetter_1 : decode cX2_readsLetter 1 = .ok (.getfield 20, 3) := by decide +kernel
theorem dX2_readsLetter_4 : decode cX2_readsLetter 4 = .ok (.aload_n 0, 1) := by decide +kernel
theorem dX2_readsLetter_5 : decode cX2_readsLetter 5 = .ok (.getfield 33, 3) := by decide +kernel
theorem dX2_readsLetter_8 : decode cX2_readsLetter 8 = .ok (.invokevirtual 54, 3) := by decide +kernel
theorem dX2_readsLetter_11 : decode cX2_readsLetter 11 = .ok (.istore_n 1, 1) := by decide +kernel
theorem dX2_readsLetter_12 : decode cX2_readsLetter 12 = .ok (.aload_n 0, 1) := by decide +kernel
theorem dX2_readsLetter_13 : decode cX2_readsLetter 13 = .ok (.getfield 33, 3) := by decide +kernel
theorem dX2_readsLetter_16 : decode cX2_readsLetter 16 = .ok (.iconst 1, 1) := by decide +kernel
theorem dX2_readsLetter_17 : decode cX2_readsLetter 17 = .ok (.iadd, 1) := by decide +kernel
theorem dX2_readsLetter_18 : decode cX2_readsLetter 18 = .ok (.istore_n 2, 1) := by decide +kernel
theorem dX2_readsLetter_19 : decode cX2_readsLetter 19 = .ok (.iload_n 2, 1) := by decide +kernel
theorem dX2_readsLetter_20 : decode cX2_readsLetter 20 = .ok (.aload_n 0, 1) := by decide +kernel
theorem dX2_readsLetter_21 : decode cX2_readsLetter 21 = .ok (.getfield 20, 3) := by decide +kernel
theorem dX2_readsLetter_24 : decode cX2_readsLetter 24 = .ok (.invokevirtual 65, 3) := by decide +kernel
theorem dX2_readsLetter_27 : decode cX2_readsLetter 27 = .ok (.if_icmp .ge 23, 3) := by decide +kernel
theorem dX2_readsLetter_30 : decode cX2_readsLetter 30 = .ok (.aload_n 0, 1) := by decide +kernel
theorem dX2_readsLetter_31 : decode cX2_readsLetter 31 = .ok (.getfield 20, 3) := by decide +kernel
theorem dX2_readsLetter_34 : decode cX2_readsLetter 34 = .ok (.iload_n 2, 1) := by decide +kernel
theorem dX2_readsLetter_35 : decode cX2_readsLetter 35 = .ok (.invokevirtual 54, 3) := by decide +kernel
theorem dX2_readsLetter_38 : decode cX2_readsLetter 38 = .ok (.invokestatic 96, 3) := by decide +kernel
theorem dX2_readsLetter_41 : decode cX2_readsLetter 41 = .ok (.ifCond .ne 9, 3) := by decide +kernel
theorem dX2_readsLetter_44 : decode cX2_readsLetter 44 = .ok (.iinc 2 1, 3) := by decide +kernel
theorem dX2_readsLetter_47 : decode cX2_readsLetter 47 = .ok (.goto (-28), 3) := by decide +kernel
theorem dX2_readsLetter_50 : decode cX2_readsLetter 50 = .ok (.aload_n 0, 1) := by decide +kernel
theorem dX2_readsLetter_51 : decode cX2_readsLetter 51 = .ok (.iload_n 2, 1) := by decide +kernel
theorem dX2_readsLetter_52 : decode cX2_readsLetter 52 = .ok (.putfield 33, 3) := by decide +kernel
theorem dX2_readsLetter_55 : decode cX2_readsLetter 55 = .ok (.iload_n 1, 1) := by decide +kernel
theorem dX2_readsLetter_56 : decode cX2_readsLetter 56 = .ok (.ireturn, 1) := by decide +kernel
theorem dX5_init_0 : decode cX5_init 0 = .ok (.aload_n 0, 1) := by decide +kernel
theorem dX5_init_1 : decode cX5_init 1 = .ok (.invokespecial 3, 3) := by decide +kernel
theorem dX5_init_4 : decode cX5_init 4 = .ok (.aload_n 0, 1) := by decide +kernel
theorem dX5_init_5 : decode cX5_init 5 = .ok (.new 9, 3) := by decide +kernel
theorem dX5_init_8 : decode cX5_init 8 = .ok (.dup, 1) := by decide +kernel
theorem dX5_init_9 : decode cX5_init 9 = .ok (.bipush 121, 2) := by decide +kernel
theorem dX5_init_11 : decode cX5_init 11 = .ok (.invokespecial 11, 3) := by decide +kernel
theorem dX5_init_14 : decode cX5_init 14 = .ok (.putfield 14, 3) := by decide +kernel
theorem dX5_init_17 : decode cX5_init 17 = .ok (.aload_n 0, 1) := by decide +kernel
theorem dX5_init_18 : decode cX5_init 18 = .ok (.new 9, 3) := by decide +kernel
theorem dX5_init_21 : decode cX5_init 21 = .ok (.dup, 1) := by decide +kernel
theorem dX5_init_22 : decode cX5_init 22 = .ok (.bipush 121, 2) := by decide +kernel
theorem dX5_init_24 : decode cX5_init 24 = .ok (.invokespecial 11, 3) := by decide +kernel
theorem dX5_init_27 : decode cX5_init 27 = .ok (.putfield 20, 3) := by decide +kernel
theorem dX5_init_30 : decode cX5_init 30 = .ok (.aload_n 0, 1) := by decide +kernel
theorem dX5_init_31 : decode cX5_init 31 = .ok (.new 9, 3) := by decide +kernel
theorem dX5_init_34 : decode cX5_init 34 = .ok (.dup, 1) := by decide +kernel
theorem dX5_init_35 : decode cX5_init 35 = .ok (.bipush 121, 2) := by decide +kernel
theorem dX5_init_37 : decode cX5_init 37 = .ok (.invokespecial 11, 3) := by decide +kernel
theorem dX5_init_40 : decode cX5_init 40 = .ok (.putfield 23, 3) := by decide +kernel
theorem dX5_init_43 : decode cX5_init 43 = .ok (.aload_n 0, 1) := by decide +kernel
theorem dX5_init_44 : decode cX5_init 44 = .ok (.new 9, 3) := by decide +kernel
theorem dX5_init_47 : decode cX5_init 47 = .ok (.dup, 1) := by decide +kernel
theorem dX5_init_48 : decode cX5_init 48 = .ok (.bipush 121, 2) := by decide +kernel
theorem dX5_init_50 : decode cX5_init 50 = .ok (.invokespecial 11, 3) := by decide +kernel
theorem dX5_init_53 : decode cX5_init 53 = .ok (.putfield 26, 3) := by decide +kernel
theorem dX5_init_56 : decode cX5_init 56 = .ok (.aload_n 0, 1) := by decide +kernel
theorem dX5_init_57 : decode cX5_init 57 = .ok (.new 9, 3) := by decide +kernel
theorem dX5_init_60 : decode cX5_init 60 = .ok (.dup, 1) := by decide +kernel
theorem dX5_init_61 : decode cX5_init 61 = .ok (.bipush 121, 2) := by decide +kernel
theorem dX5_init_63 : decode cX5_init 63 = .ok (.invokespecial 11, 3) := by decide +kernel
theorem dX5_init_66 : decode cX5_init 66 = .ok (.putfield 29, 3) := by decide +kernel
theorem dX5_init_69 : decode cX5_init 69 = .ok (.aload_n 0, 1) := by decide +kernel
theorem dX5_init_70 : decode cX5_init 70 = .ok (.new 9, 3) := by decide +kernel
theorem dX5_init_73 : decode cX5_init 73 = .ok (.dup, 1) := by decide +kernel
theorem dX5_init_74 : decode cX5_init 74 = .ok (.bipush 121, 2) := by decide +kernel
theorem dX5_init_76 : decode cX5_init 76 = .ok (.invokespecial 11, 3) := by decide +kernel
theorem dX5_init_79 : decode cX5_init 79 = .ok (.putfield 32, 3) := by decide +kernel
theorem dX5_init_82 : decode cX5_init 82 = .ok (.aload_n 0, 1) := by decide +kernel
theorem dX5_init_83 : decode cX5_init 83 = .ok (.invokevirtual 35, 3) := by decide +kernel
theorem dX5_init_86 : decode cX5_init 86 = .ok (.return_, 1) := by decide +kernel
theorem dX5_startsOver_0 : decode cX5_startsOver 0 = .ok (.aload_n 0, 1) := by decide +kernel
theorem dX5_startsOver_1 : decode cX5_startsOver 1 = .ok (.getfield 14, 3) := by decide +kernel
theorem dX5_startsOver_4 : decode cX5_startsOver 4 = .ok (.invokevirtual 38, 3) := by decide +kernel
theorem dX5_startsOver_7 : decode cX5_startsOver 7 = .ok (.aload_n 0, 1) := by decide +kernel
theorem dX5_startsOver_8 : decode cX5_startsOver 8 = .ok (.getfield 20, 3) := by decide +kernel
theorem dX5_startsOver_11 : decode cX5_startsOver 11 = .ok (.invokevirtual 38, 3) := by decide +kernel
theorem dX5_startsOver_14 : decode cX5_startsOver 14 = .ok (.aload_n 0, 1) := by decide +kernel
theorem dX5_startsOver_15 : decode cX5_startsOver 15 = .ok (.getfield 23, 3) := by decide +kernel
theorem dX5_startsOver_18 : decode cX5_startsOver 18 = .ok (.invokevirtual 38, 3) := by decide +kernel
theorem dX5_startsOver_21 : decode cX5_startsOver 21 = .ok (.aload_n 0, 1) := by decide +kernel
theorem dX5_startsOver_22 : decode cX5_startsOver 22 = .ok (.getfield 26, 3) := by decide +kernel
theorem dX5_startsOver_25 : decode cX5_startsOver 25 = .ok (.invokevirtual 38, 3) := by decide +kernel
theorem dX5_startsOver_28 : decode cX5_startsOver 28 = .ok (.aload_n 0, 1) := by decide +kernel
theorem dX5_startsOver_29 : decode cX5_startsOver 29 = .ok (.iconst 0, 1) := by decide +kernel
theorem dX5_startsOver_30 : decode cX5_startsOver 30 = .ok (.iconst 0, 1) := by decide +kernel
theorem dX5_startsOver_31 : decode cX5_startsOver 31 = .ok (.iconst 0, 1) := by decide +kernel
theorem dX5_startsOver_32 : decode cX5_startsOver 32 = .ok (.iconst 0, 1) := by decide +kernel
theorem dX5_startsOver_33 : decode cX5_startsOver 33 = .ok (.invokevirtual 41, 3) := by decide +kernel
theorem dX5_startsOver_36 : decode cX5_startsOver 36 = .ok (.aload_n 0, 1) := by decide +kernel
theorem dX5_startsOver_37 : decode cX5_startsOver 37 = .ok (.getfield 29, 3) := by decide +kernel
theorem dX5_startsOver_40 : decode cX5_startsOver 40 = .ok (.invokevirtual 38, 3) := by decide +kernel
theorem dX5_startsOver_43 : decode cX5_startsOver 43 = .ok (.aload_n 0, 1) := by decide +kernel
theorem dX5_startsOver_44 : decode cX5_startsOver 44 = .ok (.getfield 29, 3) := by decide +kernel
theorem dX5_startsOver_47 : decode cX5_startsOver 47 = .ok (.iconst 0, 1) := by decide +kernel
theorem dX5_startsOver_48 : decode cX5_startsOver 48 = .ok (.invokevirtual 45, 3) := by decide +kernel
theorem dX5_startsOver_51 : decode cX5_startsOver 51 = .ok (.aload_n 0, 1) := by decide +kernel
theorem dX5_startsOver_52 : decode cX5_startsOver 52 = .ok (.iconst 0, 1) := by decide +kernel
theorem dX5_startsOver_53 : decode cX5_startsOver 53 = .ok (.putfield 48, 3) := by decide +kernel
theorem dX5_startsOver_56 : decode cX5_startsOver 56 = .ok (.return_, 1) := by decide +kernel
theorem dX5_addsPlace_0 : decode cX5_addsPlace 0 = .ok (.aload_n 0, 1) := by decide +kernel
theorem dX5_addsPlace_1 : decode cX5_addsPlace 1 = .ok (.getfield 14, 3) := by decide +kernel
theorem dX5_addsPlace_4 : decode cX5_addsPlace 4 = .ok (.iload_n 1, 1) := by decide +kernel
theorem dX5_addsPlace_5 : decode cX5_addsPlace 5 = .ok (.invokevirtual 45, 3) := by decide +kernel
theorem dX5_addsPlace_8 : decode cX5_addsPlace 8 = .ok (.aload_n 0, 1) := by decide +kernel
theorem dX5_addsPlace_9 : decode cX5_addsPlace 9 = .ok (.getfield 20, 3) := by decide +kernel
theorem dX5_addsPlace_12 : decode cX5_addsPlace 12 = .ok (.iload_n 2, 1) := by decide +kernel
theorem dX5_addsPlace_13 : decode cX5_addsPlace 13 = .ok (.invokevirtual 45, 3) := by decide +kernel
theorem dX5_addsPlace_16 : decode cX5_addsPlace 16 = .ok (.aload_n 0, 1) := by decide +kernel
theorem dX5_addsPlace_17 : decode cX5_addsPlace 17 = .ok (.getfield 23, 3) := by decide +kernel
theorem dX5_addsPlace_20 : decode cX5_addsPlace 20 = .ok (.iload_n 3, 1) := by decide +kernel
theorem dX5_addsPlace_21 : decode cX5_addsPlace 21 = .ok (.invokevirtual 45, 3) := by decide +kernel
theorem dX5_addsPlace_24 : decode cX5_addsPlace 24 = .ok (.aload_n 0, 1) := by decide +kernel
theorem dX5_addsPlace_25 : decode cX5_addsPlace 25 = .ok (.getfield 26, 3) := by decide +kernel
theorem dX5_addsPlace_28 : decode cX5_addsPlace 28 = .ok (.iload 4, 2) := by decide +kernel
theorem dX5_addsPlace_30 : decode cX5_addsPlace 30 = .ok (.invokevirtual 45, 3) := by decide +kernel
theorem dX5_addsPlace_33 : decode cX5_addsPlace 33 = .ok (.return_, 1) := by decide +kernel
theorem dX5_measures_0 : decode cX5_measures 0 = .ok (.aload_n 0, 1) := by decide +kernel
theorem dX5_measures_1 : decode cX5_measures 1 = .ok (.invokevirtual 35, 3) := by decide +kernel
theorem dX5_measures_4 : decode cX5_measures 4 = .ok (.iconst 0, 1) := by decide +kernel
theorem dX5_measures_5 : decode cX5_measures 5 = .ok (.istore_n 2, 1) := by decide +kernel
theorem dX5_measures_6 : decode cX5_measures 6 = .ok (.iconst 0, 1) := by decide +kernel
theorem dX5_measures_7 : decode cX5_measures 7 = .ok (.istore_n 3, 1) := by decide +kernel
theorem dX5_measures_8 : decode cX5_measures 8 = .ok (.iconst 0, 1) := by decide +kernel
theorem dX5_measures_9 : decode cX5_measures 9 = .ok (.istore 4, 2) := by decide +kernel
theorem dX5_measures_11 : decode cX5_measures 11 = .ok (.iload 4, 2) := by decide +kernel
theorem dX5_measures_13 : decode cX5_measures 13 = .ok (.aload_n 1, 1) := by decide +kernel
theorem dX5_measures_14 : decode cX5_measures 14 = .ok (.invokevirtual 52, 3) := by decide +kernel
theorem dX5_measures_17 : decode cX5_measures 17 = .ok (.if_icmp .ge 78, 3) := by decide +kernel
theorem dX5_measures_20 : decode cX5_measures 20 = .ok (.aload_n 1, 1) := by decide +kernel
theorem dX5_measures_21 : decode cX5_measures 21 = .ok (.iload 4, 2) := by decide +kernel
theorem dX5_measures_23 : decode cX5_measures 23 = .ok (.invokevirtual 56, 3) := by decide +kernel
theorem dX5_measures_26 : decode cX5_measures 26 = .ok (.istore 5, 2) := by decide +kernel
theorem dX5_measures_28 : decode cX5_measures 28 = .ok (.iload_n 2, 1) := by decide +kernel
theorem dX5_measures_29 : decode cX5_measures 29 = .ok (.iload 5, 2) := by decide +kernel
theorem dX5_measures_31 : decode cX5_measures 31 = .ok (.invokestatic 60, 3) := by decide +kernel
theorem dX5_measures_34 : decode cX5_measures 34 = .ok (.ifCond .eq 7, 3) := by decide +kernel
theorem dX5_measures_37 : decode cX5_measures 37 = .ok (.iconst 1, 1) := by decide +kernel
theorem dX5_measures_38 : decode cX5_measures 38 = .ok (.goto 4, 3) := by decide +kernel
theorem dX5_measures_41 : decode cX5_measures 41 = .ok (.iconst 0, 1) := by decide +kernel
theorem dX5_measures_42 : decode cX5_measures 42 = .ok (.iadd, 1) := by decide +kernel
theorem dX5_measures_43 : decode cX5_measures 43 = .ok (.istore_n 2, 1) := by decide +kernel
theorem dX5_measures_44 : decode cX5_measures 44 = .ok (.iload_n 3, 1) := by decide +kernel
theorem dX5_measures_45 : decode cX5_measures 45 = .ok (.iload 5, 2) := by decide +kernel
theorem dX5_measures_47 : decode cX5_measures 47 = .ok (.invokestatic 64, 3) := by decide +kernel
theorem dX5_measures_50 : decode cX5_measures 50 = .ok (.iadd, 1) := by decide +kernel
theorem dX5_measures_51 : decode cX5_measures 51 = .ok (.istore_n 3, 1) := by decide +kernel
theorem dX5_measures_52 : decode cX5_measures 52 = .ok (.iload 5, 2) := by decide +kernel
theorem dX5_measures_54 : decode cX5_measures 54 = .ok (.bipush 10, 2) := by decide +kernel
theorem dX5_measures_56 : decode cX5_measures 56 = .ok (.if_icmp .ne 14, 3) := by decide +kernel
theorem dX5_measures_59 : decode cX5_measures 59 = .ok (.aload_n 0, 1) := by decide +kernel
theorem dX5_measures_60 : decode cX5_measures 60 = .ok (.getfield 29, 3) := by decide +kernel
theorem dX5_measures_63 : decode cX5_measures 63 = .ok (.iload 4, 2) := by decide +kernel
theorem dX5_measures_65 : decode cX5_measures 65 = .ok (.iconst 1, 1) := by decide +kernel
theorem dX5_measures_66 : decode cX5_measures 66 = .ok (.iadd, 1) := by decide +kernel
theorem dX5_measures_67 : decode cX5_measures 67 = .ok (.invokevirtual 45, 3) := by decide +kernel
theorem dX5_measures_70 : decode cX5_measures 70 = .ok (.aload_n 0, 1) := by decide +kernel
theorem dX5_measures_71 : decode cX5_measures 71 = .ok (.iload 4, 2) := by decide +kernel
theorem dX5_measures_73 : decode cX5_measures 73 = .ok (.iconst 1, 1) := by decide +kernel
theorem dX5_measures_74 : decode cX5_measures 74 = .ok (.iadd, 1) := by decide +kernel
theorem dX5_measures_75 : decode cX5_measures 75 = .ok (.iload_n 2, 1) := by decide +kernel
theorem dX5_measures_76 : decode cX5_measures 76 = .ok (.aload_n 0, 1) := by decide +kernel
theorem dX5_measures_77 : decode cX5_measures 77 = .ok (.getfield 29, 3) := by decide +kernel
theorem dX5_measures_80 : decode cX5_measures 80 = .ok (.invokevirtual 52, 3) := by decide +kernel
theorem dX5_measures_83 : decode cX5_measures 83 = .ok (.iconst 1, 1) := by decide +kernel
theorem dX5_measures_84 : decode cX5_measures 84 = .ok (.isub, 1) := by decide +kernel
theorem dX5_measures_85 : decode cX5_measures 85 = .ok (.iload_n 3, 1) := by decide +kernel
theorem dX5_measures_86 : decode cX5_measures 86 = .ok (.invokevirtual 41, 3) := by decide +kernel
theorem dX5_measures_89 : decode cX5_measures 89 = .ok (.iinc 4 1, 3) := by decide +kernel
theorem dX5_measures_92 : decode cX5_measures 92 = .ok (.goto (-81), 3) := by decide +kernel
theorem dX5_measures_95 : decode cX5_measures 95 = .ok (.return_, 1) := by decide +kernel
theorem dX5_rowOf_0 : decode cX5_rowOf 0 = .ok (.iload_n 1, 1) := by decide +kernel
theorem dX5_rowOf_1 : decode cX5_rowOf 1 = .ok (.tableswitch 42 1 3 #[27, 32, 37], 27) := by decide +kernel
theorem dX5_rowOf_28 : decode cX5_rowOf 28 = .ok (.aload_n 0, 1) := by decide +kernel
theorem dX5_rowOf_29 : decode cX5_rowOf 29 = .ok (.getfield 20, 3) := by decide +kernel
theorem dX5_rowOf_32 : decode cX5_rowOf 32 = .ok (.areturn, 1) := by decide +kernel
theorem dX5_rowOf_33 : decode cX5_rowOf 33 = .ok (.aload_n 0, 1) := by decide +kernel
theorem dX5_rowOf_34 : decode cX5_rowOf 34 = .ok (.getfield 23, 3) := by decide +kernel
theorem dX5_rowOf_37 : decode cX5_rowOf 37 = .ok (.areturn, 1) := by decide +kernel
theorem dX5_rowOf_38 : decode cX5_rowOf 38 = .ok (.aload_n 0, 1) := by decide +kernel
theorem dX5_rowOf_39 : decode cX5_rowOf 39 = .ok (.getfield 26, 3) := by decide +kernel
theorem dX5_rowOf_42 : decode cX5_rowOf 42 = .ok (.areturn, 1) := by decide +kernel
theorem dX5_rowOf_43 : decode cX5_rowOf 43 = .ok (.aload_n 0, 1) := by decide +kernel
theorem dX5_rowOf_44 : decode cX5_rowOf 44 = .ok (.getfield 14, 3) := by decide +kernel
theorem dX5_rowOf_47 : decode cX5_rowOf 47 = .ok (.areturn, 1) := by decide +kernel
theorem dX5_ahead_0 : decode cX5_ahead 0 = .ok (.aload_n 0, 1) := by decide +kernel
theorem dX5_ahead_1 : decode cX5_ahead 1 = .ok (.iload_n 1, 1) := by decide +kernel
theorem dX5_ahead_2 : decode cX5_ahead 2 = .ok (.invokevirtual 67, 3) := by decide +kernel
theorem dX5_ahead_5 : decode cX5_ahead 5 = .ok (.iload_n 2, 1) := by decide +kernel
theorem dX5_ahead_6 : decode cX5_ahead 6 = .ok (.invokevirtual 56, 3) := by decide +kernel
theorem dX5_ahead_9 : decode cX5_ahead 9 = .ok (.ireturn, 1) := by decide +kernel
theorem dX5_between_0 : decode cX5_between 0 = .ok (.aload_n 0, 1) := by decide +kernel
theorem dX5_between_1 : decode cX5_between 1 = .ok (.iload_n 1, 1) := by decide +kernel
theorem dX5_between_2 : decode cX5_between 2 = .ok (.iload_n 3, 1) := by decide +kernel
theorem dX5_between_3 : decode cX5_between 3 = .ok (.invokevirtual 71, 3) := by decide +kernel
theorem dX5_between_6 : decode cX5_between 6 = .ok (.aload_n 0, 1) := by decide +kernel
theorem dX5_between_7 : decode cX5_between 7 = .ok (.iload_n 1, 1) := by decide +kernel
theorem dX5_between_8 : decode cX5_between 8 = .ok (.iload_n 2, 1) := by decide +kernel
theorem dX5_between_9 : decode cX5_between 9 = .ok (.invokevirtual 71, 3) := by decide +kernel
theorem dX5_between_12 : decode cX5_between 12 = .ok (.isub, 1) := by decide +kernel
theorem dX5_between_13 : decode cX5_between 13 = .ok (.ireturn, 1) := by decide +kernel
theorem dX5_lastPlace_0 : decode cX5_lastPlace 0 = .ok (.aload_n 0, 1) := by decide +kernel
theorem dX5_lastPlace_1 : decode cX5_lastPlace 1 = .ok (.getfield 14, 3) := by decide +kernel
theorem dX5_lastPlace_4 : decode cX5_lastPlace 4 = .ok (.invokevirtual 52, 3) := by decide +kernel
theorem dX5_lastPlace_7 : decode cX5_lastPlace 7 = .ok (.iconst 1, 1) := by decide +kernel
theorem dX5_lastPlace_8 : decode cX5_lastPlace 8 = .ok (.isub, 1) := by decide +kernel
theorem dX5_lastPlace_9 : decode cX5_lastPlace 9 = .ok (.ireturn, 1) := by decide +kernel
theorem dX5_total_0 : decode cX5_total 0 = .ok (.aload_n 0, 1) := by decide +kernel
theorem dX5_total_1 : decode cX5_total 1 = .ok (.iload_n 1, 1) := by decide +kernel
theorem dX5_total_2 : decode cX5_total 2 = .ok (.aload_n 0, 1) := by decide +kernel
theorem dX5_total_3 : decode cX5_total 3 = .ok (.invokevirtual 75, 3) := by decide +kernel
theorem dX5_total_6 : decode cX5_total 6 = .ok (.invokevirtual 71, 3) := by decide +kernel
theorem dX5_total_9 : decode cX5_total 9 = .ok (.ireturn, 1) := by decide +kernel
theorem dX5_placeBy_0 : decode cX5_placeBy 0 = .ok (.iload_n 1, 1) := by decide +kernel
theorem dX5_placeBy_1 : decode cX5_placeBy 1 = .ok (.iconst 2, 1) := by decide +kernel
theorem dX5_placeBy_2 : decode cX5_placeBy 2 = .ok (.if_icmp .ne 9, 3) := by decide +kernel
theorem dX5_placeBy_5 : decode cX5_placeBy 5 = .ok (.aload_n 0, 1) := by decide +kernel
theorem dX5_placeBy_6 : decode cX5_placeBy 6 = .ok (.iload_n 2, 1) := by decide +kernel
theorem dX5_placeBy_7 : decode cX5_placeBy 7 = .ok (.invokevirtual 78, 3) := by decide +kernel
theorem dX5_placeBy_10 : decode cX5_placeBy 10 = .ok (.ireturn, 1) := by decide +kernel
theorem dX5_placeBy_11 : decode cX5_placeBy 11 = .ok (.aload_n 0, 1) := by decide +kernel
theorem dX5_placeBy_12 : decode cX5_placeBy 12 = .ok (.iload_n 1, 1) := by decide +kernel
theorem dX5_placeBy_13 : decode cX5_placeBy 13 = .ok (.iconst 0, 1) := by decide +kernel
theorem dX5_placeBy_14 : decode cX5_placeBy 14 = .ok (.aload_n 0, 1) := by decide +kernel
theorem dX5_placeBy_15 : decode cX5_placeBy 15 = .ok (.invokevirtual 75, 3) := by decide +kernel
theorem dX5_placeBy_18 : decode cX5_placeBy 18 = .ok (.iload_n 2, 1) := by decide +kernel
theorem dX5_placeBy_19 : decode cX5_placeBy 19 = .ok (.invokevirtual 81, 3) := by decide +kernel
theorem dX5_placeBy_22 : decode cX5_placeBy 22 = .ok (.ireturn, 1) := by decide +kernel
theorem dX5_farthest_0 : decode cX5_farthest 0 = .ok (.iload_n 2, 1) := by decide +kernel
theorem dX5_farthest_1 : decode cX5_farthest 1 = .ok (.istore 5, 2) := by decide +kernel
theorem dX5_farthest_3 : decode cX5_farthest 3 = .ok (.iload 5, 2) := by decide +kernel
theorem dX5_farthest_5 : decode cX5_farthest 5 = .ok (.iload_n 3, 1) := by decide +kernel
theorem dX5_farthest_6 : decode cX5_farthest 6 = .ok (.if_icmp .ge 24, 3) := by decide +kernel
theorem dX5_farthest_9 : decode cX5_farthest 9 = .ok (.aload_n 0, 1) := by decide +kernel
theorem dX5_farthest_10 : decode cX5_farthest 10 = .ok (.iload_n 1, 1) := by decide +kernel
theorem dX5_farthest_11 : decode cX5_farthest 11 = .ok (.iload_n 2, 1) := by decide +kernel
theorem dX5_farthest_12 : decode cX5_farthest 12 = .ok (.iload 5, 2) := by decide +kernel
theorem dX5_farthest_14 : decode cX5_farthest 14 = .ok (.iconst 1, 1) := by decide +kernel
theorem dX5_farthest_15 : decode cX5_farthest 15 = .ok (.iadd, 1) := by decide +kernel
theorem dX5_farthest_16 : decode cX5_farthest 16 = .ok (.invokevirtual 85, 3) := by decide +kernel
theorem dX5_farthest_19 : decode cX5_farthest 19 = .ok (.iload 4, 2) := by decide +kernel
theorem dX5_farthest_21 : decode cX5_farthest 21 = .ok (.if_icmp .gt 9, 3) := by decide +kernel
theorem dX5_farthest_24 : decode cX5_farthest 24 = .ok (.iinc 5 1, 3) := by decide +kernel
theorem dX5_farthest_27 : decode cX5_farthest 27 = .ok (.goto (-24), 3) := by decide +kernel
theorem dX5_farthest_30 : decode cX5_farthest 30 = .ok (.iload 5, 2) := by decide +kernel
theorem dX5_farthest_32 : decode cX5_farthest 32 = .ok (.ireturn, 1) := by decide +kernel
theorem dX5_lines_0 : decode cX5_lines 0 = .ok (.aload_n 0, 1) := by decide +kernel
theorem dX5_lines_1 : decode cX5_lines 1 = .ok (.getfield 29, 3) := by decide +kernel
theorem dX5_lines_4 : decode cX5_lines 4 = .ok (.invokevirtual 52, 3) := by decide +kernel
theorem dX5_lines_7 : decode cX5_lines 7 = .ok (.ireturn, 1) := by decide +kernel
theorem dX5_lineBegin_0 : decode cX5_lineBegin 0 = .ok (.aload_n 0, 1) := by decide +kernel
theorem dX5_lineBegin_1 : decode cX5_lineBegin 1 = .ok (.getfield 29, 3) := by decide +kernel
theorem dX5_lineBegin_4 : decode cX5_lineBegin 4 = .ok (.iload_n 1, 1) := by decide +kernel
theorem dX5_lineBegin_5 : decode cX5_lineBegin 5 = .ok (.invokevirtual 56, 3) := by decide +kernel
theorem dX5_lineBegin_8 : decode cX5_lineBegin 8 = .ok (.ireturn, 1) := by decide +kernel
theorem dX5_lineEnd_0 : decode cX5_lineEnd 0 = .ok (.iload_n 1, 1) := by decide +kernel
theorem dX5_lineEnd_1 : decode cX5_lineEnd 1 = .ok (.iconst 1, 1) := by decide +kernel
theorem dX5_lineEnd_2 : decode cX5_lineEnd 2 = .ok (.iadd, 1) := by decide +kernel
theorem dX5_lineEnd_3 : decode cX5_lineEnd 3 = .ok (.aload_n 0, 1) := by decide +kernel
theorem dX5_lineEnd_4 : decode cX5_lineEnd 4 = .ok (.invokevirtual 89, 3) := by decide +kernel
theorem dX5_lineEnd_7 : decode cX5_lineEnd 7 = .ok (.if_icmp .ge 15, 3) := by decide +kernel
theorem dX5_lineEnd_10 : decode cX5_lineEnd 10 = .ok (.aload_n 0, 1) := by decide +kernel
theorem dX5_lineEnd_11 : decode cX5_lineEnd 11 = .ok (.iload_n 1, 1) := by decide +kernel
theorem dX5_lineEnd_12 : decode cX5_lineEnd 12 = .ok (.iconst 1, 1) := by decide +kernel
theorem dX5_lineEnd_13 : decode cX5_lineEnd 13 = .ok (.iadd, 1) := by decide +kernel
theorem dX5_lineEnd_14 : decode cX5_lineEnd 14 = .ok (.invokevirtual 78, 3) := by decide +kernel
theorem dX5_lineEnd_17 : decode cX5_lineEnd 17 = .ok (.iconst 1, 1) := by decide +kernel
theorem dX5_lineEnd_18 : decode cX5_lineEnd 18 = .ok (.isub, 1) := by decide +kernel
theorem dX5_lineEnd_19 : decode cX5_lineEnd 19 = .ok (.goto 7, 3) := by decide +kernel
theorem dX5_lineEnd_22 : decode cX5_lineEnd 22 = .ok (.aload_n 0, 1) := by decide +kernel
theorem dX5_lineEnd_23 : decode cX5_lineEnd 23 = .ok (.invokevirtual 75, 3) := by decide +kernel
theorem dX5_lineEnd_26 : decode cX5_lineEnd 26 = .ok (.ireturn, 1) := by decide +kernel
theorem dX5_lineWidth_0 : decode cX5_lineWidth 0 = .ok (.aload_n 0, 1) := by decide +kernel
theorem dX5_lineWidth_1 : decode cX5_lineWidth 1 = .ok (.iconst 3, 1) := by decide +kernel
theorem dX5_lineWidth_2 : decode cX5_lineWidth 2 = .ok (.aload_n 0, 1) := by decide +kernel
theorem dX5_lineWidth_3 : decode cX5_lineWidth 3 = .ok (.iload_n 1, 1) := by decide +kernel
theorem dX5_lineWidth_4 : decode cX5_lineWidth 4 = .ok (.invokevirtual 78, 3) := by decide +kernel
theorem dX5_lineWidth_7 : decode cX5_lineWidth 7 = .ok (.aload_n 0, 1) := by decide +kernel
theorem dX5_lineWidth_8 : decode cX5_lineWidth 8 = .ok (.iload_n 1, 1) := by decide +kernel
theorem dX5_lineWidth_9 : decode cX5_lineWidth 9 = .ok (.invokevirtual 92, 3) := by decide +kernel
theorem dX5_lineWidth_12 : decode cX5_lineWidth 12 = .ok (.invokevirtual 85, 3) := by decide +kernel
theorem dX5_lineWidth_15 : decode cX5_lineWidth 15 = .ok (.ireturn, 1) := by decide +kernel
theorem dX5_lineByWidth_0 : decode cX5_lineByWidth 0 = .ok (.aload_n 0, 1) := by decide +kernel
theorem dX5_lineByWidth_1 : decode cX5_lineByWidth 1 = .ok (.getfield 48, 3) := by decide +kernel
theorem dX5_lineByWidth_4 : decode cX5_lineByWidth 4 = .ok (.ifCond .ne 12, 3) := by decide +kernel
theorem dX5_lineByWidth_7 : decode cX5_lineByWidth 7 = .ok (.aload_n 0, 1) := by decide +kernel
theorem dX5_lineByWidth_8 : decode cX5_lineByWidth 8 = .ok (.invokevirtual 95, 3) := by decide +kernel
theorem dX5_lineByWidth_11 : decode cX5_lineByWidth 11 = .ok (.aload_n 0, 1) := by decide +kernel
theorem dX5_lineByWidth_12 : decode cX5_lineByWidth 12 = .ok (.iconst 1, 1) := by decide +kernel
theorem dX5_lineByWidth_13 : decode cX5_lineByWidth 13 = .ok (.putfield 48, 3) := by decide +kernel
theorem dX5_lineByWidth_16 : decode cX5_lineByWidth 16 = .ok (.aload_n 0, 1) := by decide +kernel
theorem dX5_lineByWidth_17 : decode cX5_lineByWidth 17 = .ok (.getfield 32, 3) := by decide +kernel
theorem dX5_lineByWidth_20 : decode cX5_lineByWidth 20 = .ok (.iload_n 1, 1) := by decide +kernel
theorem dX5_lineByWidth_21 : decode cX5_lineByWidth 21 = .ok (.invokevirtual 56, 3) := by decide +kernel
theorem dX5_lineByWidth_24 : decode cX5_lineByWidth 24 = .ok (.ireturn, 1) := by decide +kernel
theorem dX5_sortsLines_0 : decode cX5_sortsLines 0 = .ok (.aload_n 0, 1) := by decide +kernel
theorem dX5_sortsLines_1 : decode cX5_sortsLines 1 = .ok (.getfield 32, 3) := by decide +kernel
theorem dX5_sortsLines_4 : decode cX5_sortsLines 4 = .ok (.invokevirtual 38, 3) := by decide +kernel
theorem dX5_sortsLines_7 : decode cX5_sortsLines 7 = .ok (.iconst 0, 1) := by decide +kernel
theorem dX5_sortsLines_8 : decode cX5_sortsLines 8 = .ok (.istore_n 1, 1) := by decide +kernel
theorem dX5_sortsLines_9 : decode cX5_sortsLines 9 = .ok (.iload_n 1, 1) := by decide +kernel
theorem dX5_sortsLines_10 : decode cX5_sortsLines 10 = .ok (.aload_n 0, 1) := by decide +kernel
theorem dX5_sortsLines_11 : decode cX5_sortsLines 11 = .ok (.invokevirtual 89, 3) := by decide +kernel
theorem dX5_sortsLines_14 : decode cX5_sortsLines 14 = .ok (.if_icmp .ge 80, 3) := by decide +kernel
theorem dX5_sortsLines_17 : decode cX5_sortsLines 17 = .ok (.aload_n 0, 1) := by decide +kernel
theorem dX5_sortsLines_18 : decode cX5_sortsLines 18 = .ok (.iload_n 1, 1) := by decide +kernel
theorem dX5_sortsLines_19 : decode cX5_sortsLines 19 = .ok (.invokevirtual 98, 3) := by decide +kernel
theorem dX5_sortsLines_22 : decode cX5_sortsLines 22 = .ok (.istore_n 2, 1) := by decide +kernel
theorem dX5_sortsLines_23 : decode cX5_sortsLines 23 = .ok (.aload_n 0, 1) := by decide +kernel
theorem dX5_sortsLines_24 : decode cX5_sortsLines 24 = .ok (.getfield 32, 3) := by decide +kernel
theorem dX5_sortsLines_27 : decode cX5_sortsLines 27 = .ok (.iload_n 1, 1) := by decide +kernel
theorem dX5_sortsLines_28 : decode cX5_sortsLines 28 = .ok (.invokevirtual 45, 3) := by decide +kernel
theorem dX5_sortsLines_31 : decode cX5_sortsLines 31 = .ok (.iload_n 1, 1) := by decide +kernel
theorem dX5_sortsLines_32 : decode cX5_sortsLines 32 = .ok (.istore_n 3, 1) := by decide +kernel
theorem dX5_sortsLines_33 : decode cX5_sortsLines 33 = .ok (.iload_n 3, 1) := by decide +kernel
theorem dX5_sortsLines_34 : decode cX5_sortsLines 34 = .ok (.ifCond .le 45, 3) := by decide +kernel
theorem dX5_sortsLines_37 : decode cX5_sortsLines 37 = .ok (.aload_n 0, 1) := by decide +kernel
theorem dX5_sortsLines_38 : decode cX5_sortsLines 38 = .ok (.aload_n 0, 1) := by decide +kernel
theorem dX5_sortsLines_39 : decode cX5_sortsLines 39 = .ok (.getfield 32, 3) := by decide +kernel
theorem dX5_sortsLines_42 : decode cX5_sortsLines 42 = .ok (.iload_n 3, 1) := by decide +kernel
theorem dX5_sortsLines_43 : decode cX5_sortsLines 43 = .ok (.iconst 1, 1) := by decide +kernel
theorem dX5_sortsLines_44 : decode cX5_sortsLines 44 = .ok (.isub, 1) := by decide +kernel
theorem dX5_sortsLines_45 : decode cX5_sortsLines 45 = .ok (.invokevirtual 56, 3) := by decide +kernel
theorem dX5_sortsLines_48 : decode cX5_sortsLines 48 = .ok (.invokevirtual 98, 3) := by decide +kernel
theorem dX5_sortsLines_51 : decode cX5_sortsLines 51 = .ok (.iload_n 2, 1) := by decide +kernel
theorem dX5_sortsLines_52 : decode cX5_sortsLines 52 = .ok (.if_icmp .ge 27, 3) := by decide +kernel
theorem dX5_sortsLines_55 : decode cX5_sortsLines 55 = .ok (.aload_n 0, 1) := by decide +kernel
theorem dX5_sortsLines_56 : decode cX5_sortsLines 56 = .ok (.getfield 32, 3) := by decide +kernel
theorem dX5_sortsLines_59 : decode cX5_sortsLines 59 = .ok (.iload_n 3, 1) := by decide +kernel
theorem dX5_sortsLines_60 : decode cX5_sortsLines 60 = .ok (.aload_n 0, 1) := by decide +kernel
theorem dX5_sortsLines_61 : decode cX5_sortsLines 61 = .ok (.getfield 32, 3) := by decide +kernel
theorem dX5_sortsLines_64 : decode cX5_sortsLines 64 = .ok (.iload_n 3, 1) := by decide +kernel
theorem dX5_sortsLines_65 : decode cX5_sortsLines 65 = .ok (.iconst 1, 1) := by decide +kernel
theorem dX5_sortsLines_66 : decode cX5_sortsLines 66 = .ok (.isub, 1) := by decide +kernel
theorem dX5_sortsLines_67 : decode cX5_sortsLines 67 = .ok (.invokevirtual 56, 3) := by decide +kernel
theorem dX5_sortsLines_70 : decode cX5_sortsLines 70 = .ok (.invokevirtual 101, 3) := by decide +kernel
theorem dX5_sortsLines_73 : decode cX5_sortsLines 73 = .ok (.iinc 3 (-1), 3) := by decide +kernel
theorem dX5_sortsLines_76 : decode cX5_sortsLines 76 = .ok (.goto (-43), 3) := by decide +kernel
theorem dX5_sortsLines_79 : decode cX5_sortsLines 79 = .ok (.aload_n 0, 1) := by decide +kernel
theorem dX5_sortsLines_80 : decode cX5_sortsLines 80 = .ok (.getfield 32, 3) := by decide +kernel
theorem dX5_sortsLines_83 : decode cX5_sortsLines 83 = .ok (.iload_n 3, 1) := by decide +kernel
theorem dX5_sortsLines_84 : decode cX5_sortsLines 84 = .ok (.iload_n 1, 1) := by decide +kernel
theorem dX5_sortsLines_85 : decode cX5_sortsLines 85 = .ok (.invokevirtual 101, 3) := by decide +kernel
theorem dX5_sortsLines_88 : decode cX5_sortsLines 88 = .ok (.iinc 1 1, 3) := by decide +kernel
theorem dX5_sortsLines_91 : decode cX5_sortsLines 91 = .ok (.goto (-82), 3) := by decide +kernel
theorem dX5_sortsLines_94 : decode cX5_sortsLines 94 = .ok (.return_, 1) := by decide +kernel
