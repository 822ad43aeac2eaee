theorem dX7_init_0 : decode cX7_init 0 = .ok (.aload_n 0, 1) := by decide +kernel
theorem dX7_init_1 : decode cX7_init 1 = .ok (.invokespecial 1, 3) := by decide +kernel
theorem dX7_init_4 : decode cX7_init 4 = .ok (.aload_n 0, 1) := by decide +kernel
theorem dX7_init_5 : decode cX7_init 5 = .ok (.sipush 541, 3) := by decide +kernel
theorem dX7_init_8 : decode cX7_init 8 = .ok (.newarray .int, 2) := by decide +kernel
theorem dX7_init_10 : decode cX7_init 10 = .ok (.putfield 7, 3) := by decide +kernel
theorem dX7_init_13 : decode cX7_init 13 = .ok (.aload_n 0, 1) := by decide +kernel
theorem dX7_init_14 : decode cX7_init 14 = .ok (.sipush 4328, 3) := by decide +kernel
theorem dX7_init_17 : decode cX7_init 17 = .ok (.newarray .int, 2) := by decide +kernel
theorem dX7_init_19 : decode cX7_init 19 = .ok (.putfield 13, 3) := by decide +kernel
theorem dX7_init_22 : decode cX7_init 22 = .ok (.aload_n 0, 1) := by decide +kernel
theorem dX7_init_23 : decode cX7_init 23 = .ok (.sipush 1082, 3) := by decide +kernel
theorem dX7_init_26 : decode cX7_init 26 = .ok (.newarray .int, 2) := by decide +kernel
theorem dX7_init_28 : decode cX7_init 28 = .ok (.putfield 16, 3) := by decide +kernel
theorem dX7_init_31 : decode cX7_init 31 = .ok (.aload_n 0, 1) := by decide +kernel
theorem dX7_init_32 : decode cX7_init 32 = .ok (.iconst 2, 1) := by decide +kernel
theorem dX7_init_33 : decode cX7_init 33 = .ok (.newarray .boolean, 2) := by decide +kernel
theorem dX7_init_35 : decode cX7_init 35 = .ok (.putfield 19, 3) := by decide +kernel
theorem dX7_init_38 : decode cX7_init 38 = .ok (.aload_n 0, 1) := by decide +kernel
theorem dX7_init_39 : decode cX7_init 39 = .ok (.bipush 24, 2) := by decide +kernel
theorem dX7_init_41 : decode cX7_init 41 = .ok (.newarray .int, 2) := by decide +kernel
theorem dX7_init_43 : decode cX7_init 43 = .ok (.putfield 23, 3) := by decide +kernel
theorem dX7_init_46 : decode cX7_init 46 = .ok (.aload_n 0, 1) := by decide +kernel
theorem dX7_init_47 : decode cX7_init 47 = .ok (.iconst 4, 1) := by decide +kernel
theorem dX7_init_48 : decode cX7_init 48 = .ok (.newarray .int, 2) := by decide +kernel
theorem dX7_init_50 : decode cX7_init 50 = .ok (.putfield 26, 3) := by decide +kernel
theorem dX7_init_53 : decode cX7_init 53 = .ok (.aload_n 0, 1) := by decide +kernel
theorem dX7_init_54 : decode cX7_init 54 = .ok (.iconst 4, 1) := by decide +kernel
theorem dX7_init_55 : decode cX7_init 55 = .ok (.newarray .int, 2) := by decide +kernel
theorem dX7_init_57 : decode cX7_init 57 = .ok (.putfield 29, 3) := by decide +kernel
theorem dX7_init_60 : decode cX7_init 60 = .ok (.aload_n 0, 1) := by decide +kernel
theorem dX7_init_61 : decode cX7_init 61 = .ok (.bipush 96, 2) := by decide +kernel
theorem dX7_init_63 : decode cX7_init 63 = .ok (.newarray .int, 2) := by decide +kernel
theorem dX7_init_65 : decode cX7_init 65 = .ok (.putfield 32, 3) := by decide +kernel
theorem dX7_init_68 : decode cX7_init 68 = .ok (.aload_n 0, 1) := by decide +kernel
theorem dX7_init_69 : decode cX7_init 69 = .ok (.iconst 4, 1) := by decide +kernel
theorem dX7_init_70 : decode cX7_init 70 = .ok (.newarray .int, 2) := by decide +kernel
theorem dX7_init_72 : decode cX7_init 72 = .ok (.putfield 35, 3) := by decide +kernel
theorem dX7_init_75 : decode cX7_init 75 = .ok (.iconst 0, 1) := by decide +kernel
theorem dX7_init_76 : decode cX7_init 76 = .ok (.istore_n 1, 1) := by decide +kernel
theorem dX7_init_77 : decode cX7_init 77 = .ok (.iload_n 1, 1) := by decide +kernel
theorem dX7_init_78 : decode cX7_init 78 = .ok (.bipush 26, 2) := by decide +kernel
theorem dX7_init_80 : decode cX7_init 80 = .ok (.if_icmp .ge 20, 3) := by decide +kernel
theorem dX7_init_83 : decode cX7_init 83 = .ok (.aload_n 0, 1) := by decide +kernel
theorem dX7_init_84 : decode cX7_init 84 = .ok (.getfield 7, 3) := by decide +kernel
theorem dX7_init_87 : decode cX7_init 87 = .ok (.sipush 515, 3) := by decide +kernel
theorem dX7_init_90 : decode cX7_init 90 = .ok (.iload_n 1, 1) := by decide +kernel
theorem dX7_init_91 : decode cX7_init 91 = .ok (.iadd, 1) := by decide +kernel
theorem dX7_init_92 : decode cX7_init 92 = .ok (.iconst (-1), 1) := by decide +kernel
theorem dX7_init_93 : decode cX7_init 93 = .ok (.iastore, 1) := by decide +kernel
theorem dX7_init_94 : decode cX7_init 94 = .ok (.iinc 1 1, 3) := by decide +kernel
theorem dX7_init_97 : decode cX7_init 97 = .ok (.goto (-20), 3) := by decide +kernel
theorem dX7_init_100 : decode cX7_init 100 = .ok (.return_, 1) := by decide +kernel
theorem dX7_in_0 : decode cX7_in 0 = .ok (.iload_n 0, 1) := by decide +kernel
theorem dX7_in_1 : decode cX7_in 1 = .ok (.iload_n 1, 1) := by decide +kernel
theorem dX7_in_2 : decode cX7_in 2 = .ok (.if_icmp .lt 12, 3) := by decide +kernel
theorem dX7_in_5 : decode cX7_in 5 = .ok (.iload_n 0, 1) := by decide +kernel
theorem dX7_in_6 : decode cX7_in 6 = .ok (.iload_n 2, 1) := by decide +kernel
theorem dX7_in_7 : decode cX7_in 7 = .ok (.if_icmp .gt 7, 3) := by decide +kernel
theorem dX7_in_10 : decode cX7_in 10 = .ok (.iconst 1, 1) := by decide +kernel
theorem dX7_in_11 : decode cX7_in 11 = .ok (.goto 4, 3) := by decide +kernel
theorem dX7_in_14 : decode cX7_in 14 = .ok (.iconst 0, 1) := by decide +kernel
theorem dX7_in_15 : decode cX7_in 15 = .ok (.ireturn, 1) := by decide +kernel
theorem dX7_isPlace_0 : decode cX7_isPlace 0 = .ok (.iload_n 1, 1) := by decide +kernel
theorem dX7_isPlace_1 : decode cX7_isPlace 1 = .ok (.iconst 0, 1) := by decide +kernel
theorem dX7_isPlace_2 : decode cX7_isPlace 2 = .ok (.aload_n 0, 1) := by decide +kernel
theorem dX7_isPlace_3 : decode cX7_isPlace 3 = .ok (.getfield 7, 3) := by decide +kernel
theorem dX7_isPlace_6 : decode cX7_isPlace 6 = .ok (.iconst 0, 1) := by decide +kernel
theorem dX7_isPlace_7 : decode cX7_isPlace 7 = .ok (.iaload, 1) := by decide +kernel
theorem dX7_isPlace_8 : decode cX7_isPlace 8 = .ok (.invokestatic 38, 3) := by decide +kernel
theorem dX7_isPlace_11 : decode cX7_isPlace 11 = .ok (.ireturn, 1) := by decide +kernel
theorem dX7_byteAt_0 : decode cX7_byteAt 0 = .ok (.aload_n 0, 1) := by decide +kernel
theorem dX7_byteAt_1 : decode cX7_byteAt 1 = .ok (.getfield 7, 3) := by decide +kernel
theorem dX7_byteAt_4 : decode cX7_byteAt 4 = .ok (.iconst 3, 1) := by decide +kernel
theorem dX7_byteAt_5 : decode cX7_byteAt 5 = .ok (.iload_n 1, 1) := by decide +kernel
theorem dX7_byteAt_6 : decode cX7_byteAt 6 = .ok (.iadd, 1) := by decide +kernel
theorem dX7_byteAt_7 : decode cX7_byteAt 7 = .ok (.iaload, 1) := by decide +kernel
theorem dX7_byteAt_8 : decode cX7_byteAt 8 = .ok (.ireturn, 1) := by decide +kernel
theorem dX7_chunkAt_0 : decode cX7_chunkAt 0 = .ok (.iconst 0, 1) := by decide +kernel
theorem dX7_chunkAt_1 : decode cX7_chunkAt 1 = .ok (.istore_n 2, 1) := by decide +kernel
theorem dX7_chunkAt_2 : decode cX7_chunkAt 2 = .ok (.aload_n 0, 1) := by decide +kernel
theorem dX7_chunkAt_3 : decode cX7_chunkAt 3 = .ok (.getfield 7, 3) := by decide +kernel
theorem dX7_chunkAt_6 : decode cX7_chunkAt 6 = .ok (.sipush 259, 3) := by decide +kernel
theorem dX7_chunkAt_9 : decode cX7_chunkAt 9 = .ok (.iaload, 1) := by decide +kernel
theorem dX7_chunkAt_10 : decode cX7_chunkAt 10 = .ok (.istore_n 3, 1) := by decide +kernel
theorem dX7_chunkAt_11 : decode cX7_chunkAt 11 = .ok (.iload_n 3, 1) := by decide +kernel
theorem dX7_chunkAt_12 : decode cX7_chunkAt 12 = .ok (.iload_n 1, 1) := by decide +kernel
theorem dX7_chunkAt_13 : decode cX7_chunkAt 13 = .ok (.if_icmp .ge 22, 3) := by decide +kernel
theorem dX7_chunkAt_16 : decode cX7_chunkAt 16 = .ok (.iinc 2 1, 3) := by decide +kernel
theorem dX7_chunkAt_19 : decode cX7_chunkAt 19 = .ok (.iload_n 3, 1) := by decide +kernel
theorem dX7_chunkAt_20 : decode cX7_chunkAt 20 = .ok (.aload_n 0, 1) := by decide +kernel
theorem dX7_chunkAt_21 : decode cX7_chunkAt 21 = .ok (.getfield 7, 3) := by decide +kernel
theorem dX7_chunkAt_24 : decode cX7_chunkAt 24 = .ok (.sipush 259, 3) := by decide +kernel
theorem dX7_chunkAt_27 : decode cX7_chunkAt 27 = .ok (.iload_n 2, 1) := by decide +kernel
theorem dX7_chunkAt_28 : decode cX7_chunkAt 28 = .ok (.iadd, 1) := by decide +kernel
theorem dX7_chunkAt_29 : decode cX7_chunkAt 29 = .ok (.iaload, 1) := by decide +kernel
theorem dX7_chunkAt_30 : decode cX7_chunkAt 30 = .ok (.iadd, 1) := by decide +kernel
theorem dX7_chunkAt_31 : decode cX7_chunkAt 31 = .ok (.istore_n 3, 1) := by decide +kernel
theorem dX7_chunkAt_32 : decode cX7_chunkAt 32 = .ok (.goto (-21), 3) := by decide +kernel
theorem dX7_chunkAt_35 : decode cX7_chunkAt 35 = .ok (.iload_n 2, 1) := by decide +kernel
theorem dX7_chunkAt_36 : decode cX7_chunkAt 36 = .ok (.ireturn, 1) := by decide +kernel
theorem dX7_opens_0 : decode cX7_opens 0 = .ok (.iload_n 2, 1) := by decide +kernel
theorem dX7_opens_1 : decode cX7_opens 1 = .ok (.ifCond .le 48, 3) := by decide +kernel
theorem dX7_opens_4 : decode cX7_opens 4 = .ok (.aload_n 0, 1) := by decide +kernel
theorem dX7_opens_5 : decode cX7_opens 5 = .ok (.getfield 7, 3) := by decide +kernel
theorem dX7_opens_8 : decode cX7_opens 8 = .ok (.iconst 1, 1) := by decide +kernel
theorem dX7_opens_9 : decode cX7_opens 9 = .ok (.iaload, 1) := by decide +kernel
theorem dX7_opens_10 : decode cX7_opens 10 = .ok (.iconst 1, 1) := by decide +kernel
theorem dX7_opens_11 : decode cX7_opens 11 = .ok (.isub, 1) := by decide +kernel
theorem dX7_opens_12 : decode cX7_opens 12 = .ok (.istore_n 3, 1) := by decide +kernel
theorem dX7_opens_13 : decode cX7_opens 13 = .ok (.iload_n 3, 1) := by decide +kernel
theorem dX7_opens_14 : decode cX7_opens 14 = .ok (.iload_n 1, 1) := by decide +kernel
theorem dX7_opens_15 : decode cX7_opens 15 = .ok (.if_icmp .le 31, 3) := by decide +kernel
theorem dX7_opens_18 : decode cX7_opens 18 = .ok (.aload_n 0, 1) := by decide +kernel
theorem dX7_opens_19 : decode cX7_opens 19 = .ok (.getfield 7, 3) := by decide +kernel
theorem dX7_opens_22 : decode cX7_opens 22 = .ok (.sipush 259, 3) := by decide +kernel
theorem dX7_opens_25 : decode cX7_opens 25 = .ok (.iload_n 3, 1) := by decide +kernel
theorem dX7_opens_26 : decode cX7_opens 26 = .ok (.iadd, 1) := by decide +kernel
theorem dX7_opens_27 : decode cX7_opens 27 = .ok (.iload_n 2, 1) := by decide +kernel
theorem dX7_opens_28 : decode cX7_opens 28 = .ok (.iadd, 1) := by decide +kernel
theorem dX7_opens_29 : decode cX7_opens 29 = .ok (.aload_n 0, 1) := by decide +kernel
theorem dX7_opens_30 : decode cX7_opens 30 = .ok (.getfield 7, 3) := by decide +kernel
theorem dX7_opens_33 : decode cX7_opens 33 = .ok (.sipush 259, 3) := by decide +kernel
theorem dX7_opens_36 : decode cX7_opens 36 = .ok (.iload_n 3, 1) := by decide +kernel
theorem dX7_opens_37 : decode cX7_opens 37 = .ok (.iadd, 1) := by decide +kernel
theorem dX7_opens_38 : decode cX7_opens 38 = .ok (.iaload, 1) := by decide +kernel
theorem dX7_opens_39 : decode cX7_opens 39 = .ok (.iastore, 1) := by decide +kernel
theorem dX7_opens_40 : decode cX7_opens 40 = .ok (.iinc 3 (-1), 3) := by decide +kernel
theorem dX7_opens_43 : decode cX7_opens 43 = .ok (.goto (-30), 3) := by decide +kernel
theorem dX7_opens_46 : decode cX7_opens 46 = .ok (.goto 47, 3) := by decide +kernel
theorem dX7_opens_49 : decode cX7_opens 49 = .ok (.iload_n 1, 1) := by decide +kernel
theorem dX7_opens_50 : decode cX7_opens 50 = .ok (.iconst 1, 1) := by decide +kernel
theorem dX7_opens_51 : decode cX7_opens 51 = .ok (.iadd, 1) := by decide +kernel
theorem dX7_opens_52 : decode cX7_opens 52 = .ok (.istore_n 3, 1) := by decide +kernel
theorem dX7_opens_53 : decode cX7_opens 53 = .ok (.iload_n 3, 1) := by decide +kernel
theorem dX7_opens_54 : decode cX7_opens 54 = .ok (.iload_n 2, 1) := by decide +kernel
theorem dX7_opens_55 : decode cX7_opens 55 = .ok (.isub, 1) := by decide +kernel
theorem dX7_opens_56 : decode cX7_opens 56 = .ok (.aload_n 0, 1) := by decide +kernel
theorem dX7_opens_57 : decode cX7_opens 57 = .ok (.getfield 7, 3) := by decide +kernel
theorem dX7_opens_60 : decode cX7_opens 60 = .ok (.iconst 1, 1) := by decide +kernel
theorem dX7_opens_61 : decode cX7_opens 61 = .ok (.iaload, 1) := by decide +kernel
theorem dX7_opens_62 : decode cX7_opens 62 = .ok (.if_icmp .ge 31, 3) := by decide +kernel
theorem dX7_opens_65 : decode cX7_opens 65 = .ok (.aload_n 0, 1) := by decide +kernel
theorem dX7_opens_66 : decode cX7_opens 66 = .ok (.getfield 7, 3) := by decide +kernel
theorem dX7_opens_69 : decode cX7_opens 69 = .ok (.sipush 259, 3) := by decide +kernel
theorem dX7_opens_72 : decode cX7_opens 72 = .ok (.iload_n 3, 1) := by decide +kernel
theorem dX7_opens_73 : decode cX7_opens 73 = .ok (.iadd, 1) := by decide +kernel
theorem dX7_opens_74 : decode cX7_opens 74 = .ok (.aload_n 0, 1) := by decide +kernel
theorem dX7_opens_75 : decode cX7_opens 75 = .ok (.getfield 7, 3) := by decide +kernel
theorem dX7_opens_78 : decode cX7_opens 78 = .ok (.sipush 259, 3) := by decide +kernel
theorem dX7_opens_81 : decode cX7_opens 81 = .ok (.iload_n 3, 1) := by decide +kernel
theorem dX7_opens_82 : decode cX7_opens 82 = .ok (.iadd, 1) := by decide +kernel
theorem dX7_opens_83 : decode cX7_opens 83 = .ok (.iload_n 2, 1) := by decide +kernel
theorem dX7_opens_84 : decode cX7_opens 84 = .ok (.isub, 1) := by decide +kernel
theorem dX7_opens_85 : decode cX7_opens 85 = .ok (.iaload, 1) := by decide +kernel
theorem dX7_opens_86 : decode cX7_opens 86 = .ok (.iastore, 1) := by decide +kernel
theorem dX7_opens_87 : decode cX7_opens 87 = .ok (.iinc 3 1, 3) := by decide +kernel
theorem dX7_opens_90 : decode cX7_opens 90 = .ok (.goto (-37), 3) := by decide +kernel
theorem dX7_opens_93 : decode cX7_opens 93 = .ok (.aload_n 0, 1) := by decide +kernel
theorem dX7_opens_94 : decode cX7_opens 94 = .ok (.getfield 7, 3) := by decide +kernel
theorem dX7_opens_97 : decode cX7_opens 97 = .ok (.iconst 1, 1) := by decide +kernel
theorem dX7_opens_98 : decode cX7_opens 98 = .ok (.dup2, 1) := by decide +kernel
theorem dX7_opens_99 : decode cX7_opens 99 = .ok (.iaload, 1) := by decide +kernel
theorem dX7_opens_100 : decode cX7_opens 100 = .ok (.iload_n 2, 1) := by decide +kernel
theorem dX7_opens_101 : decode cX7_opens 101 = .ok (.iadd, 1) := by decide +kernel
theorem dX7_opens_102 : decode cX7_opens 102 = .ok (.iastore, 1) := by decide +kernel
theorem dX7_opens_103 : decode cX7_opens 103 = .ok (.return_, 1) := by decide +kernel
theorem dX7_putting_0 : decode cX7_putting 0 = .ok (.aload_n 0, 1) := by decide +kernel
theorem dX7_putting_1 : decode cX7_putting 1 = .ok (.getfield 7, 3) := by decide +kernel
theorem dX7_putting_4 : decode cX7_putting 4 = .ok (.iconst 0, 1) := by decide +kernel
theorem dX7_putting_5 : decode cX7_putting 5 = .ok (.iaload, 1) := by decide +kernel
theorem dX7_putting_6 : decode cX7_putting 6 = .ok (.iconst 1, 1) := by decide +kernel
theorem dX7_putting_7 : decode cX7_putting 7 = .ok (.isub, 1) := by decide +kernel
theorem dX7_putting_8 : decode cX7_putting 8 = .ok (.istore 5, 2) := by decide +kernel
theorem dX7_putting_10 : decode cX7_putting 10 = .ok (.iload 5, 2) := by decide +kernel
theorem dX7_putting_12 : decode cX7_putting 12 = .ok (.iload_n 1, 1) := by decide +kernel
theorem dX7_putting_13 : decode cX7_putting 13 = .ok (.if_icmp .lt 30, 3) := by decide +kernel
theorem dX7_putting_16 : decode cX7_putting 16 = .ok (.aload_n 0, 1) := by decide +kernel
theorem dX7_putting_17 : decode cX7_putting 17 = .ok (.getfield 7, 3) := by decide +kernel
theorem dX7_putting_20 : decode cX7_putting 20 = .ok (.iconst 3, 1) := by decide +kernel
theorem dX7_putting_21 : decode cX7_putting 21 = .ok (.iload 5, 2) := by decide +kernel
theorem dX7_putting_23 : decode cX7_putting 23 = .ok (.iadd, 1) := by decide +kernel
theorem dX7_putting_24 : decode cX7_putting 24 = .ok (.iload 4, 2) := by decide +kernel
theorem dX7_putting_26 : decode cX7_putting 26 = .ok (.iadd, 1) := by decide +kernel
theorem dX7_putting_27 : decode cX7_putting 27 = .ok (.aload_n 0, 1) := by decide +kernel
theorem dX7_putting_28 : decode cX7_putting 28 = .ok (.getfield 7, 3) := by decide +kernel
theorem dX7_putting_31 : decode cX7_putting 31 = .ok (.iconst 3, 1) := by decide +kernel
theorem dX7_putting_32 : decode cX7_putting 32 = .ok (.iload 5, 2) := by decide +kernel
theorem dX7_putting_34 : decode cX7_putting 34 = .ok (.iadd, 1) := by decide +kernel
theorem dX7_putting_35 : decode cX7_putting 35 = .ok (.iaload, 1) := by decide +kernel
theorem dX7_putting_36 : decode cX7_putting 36 = .ok (.iastore, 1) := by decide +kernel
theorem dX7_putting_37 : decode cX7_putting 37 = .ok (.iinc 5 (-1), 3) := by decide +kernel
theorem dX7_putting_40 : decode cX7_putting 40 = .ok (.goto (-30), 3) := by decide +kernel
theorem dX7_putting_43 : decode cX7_putting 43 = .ok (.iconst 0, 1) := by decide +kernel
theorem dX7_putting_44 : decode cX7_putting 44 = .ok (.istore 5, 2) := by decide +kernel
theorem dX7_putting_46 : decode cX7_putting 46 = .ok (.iload 5, 2) := by decide +kernel
theorem dX7_putting_48 : decode cX7_putting 48 = .ok (.iload 4, 2) := by decide +kernel
theorem dX7_putting_50 : decode cX7_putting 50 = .ok (.if_icmp .ge 26, 3) := by decide +kernel
theorem dX7_putting_53 : decode cX7_putting 53 = .ok (.aload_n 0, 1) := by decide +kernel
theorem dX7_putting_54 : decode cX7_putting 54 = .ok (.getfield 7, 3) := by decide +kernel
theorem dX7_putting_57 : decode cX7_putting 57 = .ok (.iconst 3, 1) := by decide +kernel
theorem dX7_putting_58 : decode cX7_putting 58 = .ok (.iload_n 1, 1) := by decide +kernel
theorem dX7_putting_59 : decode cX7_putting 59 = .ok (.iadd, 1) := by decide +kernel
theorem dX7_putting_60 : decode cX7_putting 60 = .ok (.iload 5, 2) := by decide +kernel
theorem dX7_putting_62 : decode cX7_putting 62 = .ok (.iadd, 1) := by decide +kernel
theorem dX7_putting_63 : decode cX7_putting 63 = .ok (.aload_n 2, 1) := by decide +kernel
theorem dX7_putting_64 : decode cX7_putting 64 = .ok (.iload_n 3, 1) := by decide +kernel
theorem dX7_putting_65 : decode cX7_putting 65 = .ok (.iload 5, 2) := by decide +kernel
theorem dX7_putting_67 : decode cX7_putting 67 = .ok (.iadd, 1) := by decide +kernel
theorem dX7_putting_68 : decode cX7_putting 68 = .ok (.iaload, 1) := by decide +kernel
theorem dX7_putting_69 : decode cX7_putting 69 = .ok (.iastore, 1) := by decide +kernel
theorem dX7_putting_70 : decode cX7_putting 70 = .ok (.iinc 5 1, 3) := by decide +kernel
theorem dX7_putting_73 : decode cX7_putting 73 = .ok (.goto (-27), 3) := by decide +kernel
theorem dX7_putting_76 : decode cX7_putting 76 = .ok (.aload_n 0, 1) := by decide +kernel
theorem dX7_putting_77 : decode cX7_putting 77 = .ok (.getfield 7, 3) := by decide +kernel
theorem dX7_putting_80 : decode cX7_putting 80 = .ok (.iconst 1, 1) := by decide +kernel
theorem dX7_putting_81 : decode cX7_putting 81 = .ok (.iaload, 1) := by decide +kernel
theorem dX7_putting_82 : decode cX7_putting 82 = .ok (.ifCond .ne 19, 3) := by decide +kernel
theorem dX7_putting_85 : decode cX7_putting 85 = .ok (.aload_n 0, 1) := by decide +kernel
theorem dX7_putting_86 : decode cX7_putting 86 = .ok (.getfield 7, 3) := by decide +kernel
theorem dX7_putting_89 : decode cX7_putting 89 = .ok (.iconst 1, 1) := by decide +kernel
theorem dX7_putting_90 : decode cX7_putting 90 = .ok (.iconst 1, 1) := by decide +kernel
theorem dX7_putting_91 : decode cX7_putting 91 = .ok (.iastore, 1) := by decide +kernel
theorem dX7_putting_92 : decode cX7_putting 92 = .ok (.aload_n 0, 1) := by decide +kernel
theorem dX7_putting_93 : decode cX7_putting 93 = .ok (.getfield 7, 3) := by decide +kernel
theorem dX7_putting_96 : decode cX7_putting 96 = .ok (.sipush 259, 3) := by decide +kernel
theorem dX7_putting_99 : decode cX7_putting 99 = .ok (.iconst 0, 1) := by decide +kernel
theorem dX7_putting_100 : decode cX7_putting 100 = .ok (.iastore, 1) := by decide +kernel
theorem dX7_putting_101 : decode cX7_putting 101 = .ok (.aload_n 0, 1) := by decide +kernel
theorem dX7_putting_102 : decode cX7_putting 102 = .ok (.iload_n 1, 1) := by decide +kernel
theorem dX7_putting_103 : decode cX7_putting 103 = .ok (.invokevirtual 42, 3) := by decide +kernel
theorem dX7_putting_106 : decode cX7_putting 106 = .ok (.istore 5, 2) := by decide +kernel
theorem dX7_putting_108 : decode cX7_putting 108 = .ok (.aload_n 0, 1) := by decide +kernel
theorem dX7_putting_109 : decode cX7_putting 109 = .ok (.getfield 7, 3) := by decide +kernel
theorem dX7_putting_112 : decode cX7_putting 112 = .ok (.sipush 259, 3) := by decide +kernel
theorem dX7_putting_115 : decode cX7_putting 115 = .ok (.iload 5, 2) := by decide +kernel
theorem dX7_putting_117 : decode cX7_putting 117 = .ok (.iadd, 1) := by decide +kernel
theorem dX7_putting_118 : decode cX7_putting 118 = .ok (.iaload, 1) := by decide +kernel
theorem dX7_putting_119 : decode cX7_putting 119 = .ok (.iload 4, 2) := by decide +kernel
theorem dX7_putting_121 : decode cX7_putting 121 = .ok (.iadd, 1) := by decide +kernel
theorem dX7_putting_122 : decode cX7_putting 122 = .ok (.istore 6, 2) := by decide +kernel
theorem dX7_putting_124 : decode cX7_putting 124 = .ok (.iload 6, 2) := by decide +kernel
theorem dX7_putting_126 : decode cX7_putting 126 = .ok (.bipush 8, 2) := by decide +kernel
theorem dX7_putting_128 : decode cX7_putting 128 = .ok (.iadd, 1) := by decide +kernel
theorem dX7_putting_129 : decode cX7_putting 129 = .ok (.iconst 1, 1) := by decide +kernel
theorem dX7_putting_130 : decode cX7_putting 130 = .ok (.isub, 1) := by decide +kernel
theorem dX7_putting_131 : decode cX7_putting 131 = .ok (.bipush 8, 2) := by decide +kernel
theorem dX7_putting_133 : decode cX7_putting 133 = .ok (.idiv, 1) := by decide +kernel
theorem dX7_putting_134 : decode cX7_putting 134 = .ok (.istore 7, 2) := by decide +kernel
theorem dX7_putting_136 : decode cX7_putting 136 = .ok (.aload_n 0, 1) := by decide +kernel
theorem dX7_putting_137 : decode cX7_putting 137 = .ok (.iload 5, 2) := by decide +kernel
theorem dX7_putting_139 : decode cX7_putting 139 = .ok (.iload 7, 2) := by decide +kernel
theorem dX7_putting_141 : decode cX7_putting 141 = .ok (.iconst 1, 1) := by decide +kernel
theorem dX7_putting_142 : decode cX7_putting 142 = .ok (.isub, 1) := by decide +kernel
theorem dX7_putting_143 : decode cX7_putting 143 = .ok (.invokevirtual 46, 3) := by decide +kernel
theorem dX7_putting_146 : decode cX7_putting 146 = .ok (.iconst 0, 1) := by decide +kernel
theorem dX7_putting_147 : decode cX7_putting 147 = .ok (.istore 8, 2) := by decide +kernel
theorem dX7_putting_149 : decode cX7_putting 149 = .ok (.iload 8, 2) := by decide +kernel
theorem dX7_putting_151 : decode cX7_putting 151 = .ok (.iload 7, 2) := by decide +kernel
theorem dX7_putting_153 : decode cX7_putting 153 = .ok (.if_icmp .ge 44, 3) := by decide +kernel
theorem dX7_putting_156 : decode cX7_putting 156 = .ok (.aload_n 0, 1) := by decide +kernel
theorem dX7_putting_157 : decode cX7_putting 157 = .ok (.getfield 7, 3) := by decide +kernel
theorem dX7_putting_160 : decode cX7_putting 160 = .ok (.sipush 259, 3) := by decide +kernel
theorem dX7_putting_163 : decode cX7_putting 163 = .ok (.iload 5, 2) := by decide +kernel
theorem dX7_putting_165 : decode cX7_putting 165 = .ok (.iadd, 1) := by decide +kernel
theorem dX7_putting_166 : decode cX7_putting 166 = .ok (.iload 8, 2) := by decide +kernel
theorem dX7_putting_168 : decode cX7_putting 168 = .ok (.iadd, 1) := by decide +kernel
theorem dX7_putting_169 : decode cX7_putting 169 = .ok (.iload 6, 2) := by decide +kernel
theorem dX7_putting_171 : decode cX7_putting 171 = .ok (.iload 7, 2) := by decide +kernel
theorem dX7_putting_173 : decode cX7_putting 173 = .ok (.idiv, 1) := by decide +kernel
theorem dX7_putting_174 : decode cX7_putting 174 = .ok (.iload 8, 2) := by decide +kernel
theorem dX7_putting_176 : decode cX7_putting 176 = .ok (.iload 6, 2) := by decide +kernel
theorem dX7_putting_178 : decode cX7_putting 178 = .ok (.iload 7, 2) := by decide +kernel
theorem dX7_putting_180 : decode cX7_putting 180 = .ok (.irem, 1) := by decide +kernel
theorem dX7_putting_181 : decode cX7_putting 181 = .ok (.if_icmp .ge 7, 3) := by decide +kernel
theorem dX7_putting_184 : decode cX7_putting 184 = .ok (.iconst 1, 1) := by decide +kernel
theorem dX7_putting_185 : decode cX7_putting 185 = .ok (.goto 4, 3) := by decide +kernel
theorem dX7_putting_188 : decode cX7_putting 188 = .ok (.iconst 0, 1) := by decide +kernel
theorem dX7_putting_189 : decode cX7_putting 189 = .ok (.iadd, 1) := by decide +kernel
theorem dX7_putting_190 : decode cX7_putting 190 = .ok (.iastore, 1) := by decide +kernel
theorem dX7_putting_191 : decode cX7_putting 191 = .ok (.iinc 8 1, 3) := by decide +kernel
theorem dX7_putting_194 : decode cX7_putting 194 = .ok (.goto (-45), 3) := by decide +kernel
theorem dX7_putting_197 : decode cX7_putting 197 = .ok (.aload_n 0, 1) := by decide +kernel
theorem dX7_putting_198 : decode cX7_putting 198 = .ok (.getfield 7, 3) := by decide +kernel
theorem dX7_putting_201 : decode cX7_putting 201 = .ok (.iconst 0, 1) := by decide +kernel
theorem dX7_putting_202 : decode cX7_putting 202 = .ok (.dup2, 1) := by decide +kernel
theorem dX7_putting_203 : decode cX7_putting 203 = .ok (.iaload, 1) := by decide +kernel
theorem dX7_putting_204 : decode cX7_putting 204 = .ok (.iload 4, 2) := by decide +kernel
theorem dX7_putting_206 : decode cX7_putting 206 = .ok (.iadd, 1) := by decide +kernel
theorem dX7_putting_207 : decode cX7_putting 207 = .ok (.iastore, 1) := by decide +kernel
theorem dX7_putting_208 : decode cX7_putting 208 = .ok (.sipush 515, 3) := by decide +kernel
theorem dX7_putting_211 : decode cX7_putting 211 = .ok (.istore 8, 2) := by decide +kernel
theorem dX7_putting_213 : decode cX7_putting 213 = .ok (.iload 8, 2) := by decide +kernel
theorem dX7_putting_215 : decode cX7_putting 215 = .ok (.sipush 541, 3) := by decide +kernel
theorem dX7_putting_218 : decode cX7_putting 218 = .ok (.if_icmp .ge 36, 3) := by decide +kernel
theorem dX7_putting_221 : decode cX7_putting 221 = .ok (.aload_n 0, 1) := by decide +kernel
theorem dX7_putting_222 : decode cX7_putting 222 = .ok (.getfield 7, 3) := by decide +kernel
theorem dX7_putting_225 : decode cX7_putting 225 = .ok (.iload 8, 2) := by decide +kernel
theorem dX7_putting_227 : decode cX7_putting 227 = .ok (.dup2, 1) := by decide +kernel
theorem dX7_putting_228 : decode cX7_putting 228 = .ok (.iaload, 1) := by decide +kernel
theorem dX7_putting_229 : decode cX7_putting 229 = .ok (.aload_n 0, 1) := by decide +kernel
theorem dX7_putting_230 : decode cX7_putting 230 = .ok (.getfield 7, 3) := by decide +kernel
theorem dX7_putting_233 : decode cX7_putting 233 = .ok (.iload 8, 2) := by decide +kernel
theorem dX7_putting_235 : decode cX7_putting 235 = .ok (.iaload, 1) := by decide +kernel
theorem dX7_putting_236 : decode cX7_putting 236 = .ok (.iload_n 1, 1) := by decide +kernel
theorem dX7_putting_237 : decode cX7_putting 237 = .ok (.if_icmp .le 8, 3) := by decide +kernel
theorem dX7_putting_240 : decode cX7_putting 240 = .ok (.iload 4, 2) := by decide +kernel
theorem dX7_putting_242 : decode cX7_putting 242 = .ok (.goto 4, 3) := by decide +kernel
theorem dX7_putting_245 : decode cX7_putting 245 = .ok (.iconst 0, 1) := by decide +kernel
theorem dX7_putting_246 : decode cX7_putting 246 = .ok (.iadd, 1) := by decide +kernel
theorem dX7_putting_247 : decode cX7_putting 247 = .ok (.iastore, 1) := by decide +kernel
theorem dX7_putting_248 : decode cX7_putting 248 = .ok (.iinc 8 1, 3) := by decide +kernel
theorem dX7_putting_251 : decode cX7_putting 251 = .ok (.goto (-38), 3) := by decide +kernel
theorem dX7_putting_254 : decode cX7_putting 254 = .ok (.aload_n 0, 1) := by decide +kernel
theorem dX7_putting_255 : decode cX7_putting 255 = .ok (.getfield 7, 3) := by decide +kernel
theorem dX7_putting_258 : decode cX7_putting 258 = .ok (.iconst 2, 1) := by decide +kernel
theorem dX7_putting_259 : decode cX7_putting 259 = .ok (.dup2, 1) := by decide +kernel
theorem dX7_putting_260 : decode cX7_putting 260 = .ok (.iaload, 1) := by decide +kernel
theorem dX7_putting_261 : decode cX7_putting 261 = .ok (.aload_n 0, 1) := by decide +kernel
theorem dX7_putting_262 : decode cX7_putting 262 = .ok (.getfield 7, 3) := by decide +kernel
theorem dX7_putting_265 : decode cX7_putting 265 = .ok (.iconst 2, 1) := by decide +kernel
theorem dX7_putting_266 : decode cX7_putting 266 = .ok (.iaload, 1) := by decide +kernel
theorem dX7_putting_267 : decode cX7_putting 267 = .ok (.iload_n 1, 1) := by decide +kernel
theorem dX7_putting_268 : decode cX7_putting 268 = .ok (.if_icmp .le 8, 3) := by decide +kernel
theorem dX7_putting_271 : decode cX7_putting 271 = .ok (.iload 4, 2) := by decide +kernel
theorem dX7_putting_273 : decode cX7_putting 273 = .ok (.goto 4, 3) := by decide +kernel
theorem dX7_putting_276 : decode cX7_putting 276 = .ok (.iconst 0, 1) := by decide +kernel
theorem dX7_putting_277 : decode cX7_putting 277 = .ok (.iadd, 1) := by decide +kernel
theorem dX7_putting_278 : decode cX7_putting 278 = .ok (.iastore, 1) := by decide +kernel
theorem dX7_putting_279 : decode cX7_putting 279 = .ok (.return_, 1) := by decide +kernel
theorem dX7_goes_0 : decode cX7_goes 0 = .ok (.iload_n 0, 1) := by decide +kernel
theorem dX7_goes_1 : decode cX7_goes 1 = .ok (.iload_n 1, 1) := by decide +kernel
theorem dX7_goes_2 : decode cX7_goes 2 = .ok (.iload_n 2, 1) := by decide +kernel
theorem dX7_goes_3 : decode cX7_goes 3 = .ok (.iadd, 1) := by decide +kernel
theorem dX7_goes_4 : decode cX7_goes 4 = .ok (.if_icmp .le 9, 3) := by decide +kernel
theorem dX7_goes_7 : decode cX7_goes 7 = .ok (.iload_n 0, 1) := by decide +kernel
theorem dX7_goes_8 : decode cX7_goes 8 = .ok (.iload_n 2, 1) := by decide +kernel
theorem dX7_goes_9 : decode cX7_goes 9 = .ok (.isub, 1) := by decide +kernel
theorem dX7_goes_10 : decode cX7_goes 10 = .ok (.goto 13, 3) := by decide +kernel
theorem dX7_goes_13 : decode cX7_goes 13 = .ok (.iload_n 0, 1) := by decide +kernel
theorem dX7_goes_14 : decode cX7_goes 14 = .ok (.iload_n 1, 1) := by decide +kernel
theorem dX7_goes_15 : decode cX7_goes 15 = .ok (.if_icmp .le 7, 3) := by decide +kernel
theorem dX7_goes_18 : decode cX7_goes 18 = .ok (.iload_n 1, 1) := by decide +kernel
theorem dX7_goes_19 : decode cX7_goes 19 = .ok (.goto 4, 3) := by decide +kernel
theorem dX7_goes_22 : decode cX7_goes 22 = .ok (.iload_n 0, 1) := by decide +kernel
theorem dX7_goes_23 : decode cX7_goes 23 = .ok (.ireturn, 1) := by decide +kernel
theorem dX7_taking_0 : decode cX7_taking 0 = .ok (.iconst 0, 1) := by decide +kernel
theorem dX7_taking_1 : decode cX7_taking 1 = .ok (.istore_n 3, 1) := by decide +kernel
theorem dX7_taking_2 : decode cX7_taking 2 = .ok (.iconst 0, 1) := by decide +kernel
theorem dX7_taking_3 : decode cX7_taking 3 = .ok (.istore 4, 2) := by decide +kernel
theorem dX7_taking_5 : decode cX7_taking 5 = .ok (.iload 4, 2) := by decide +kernel
theorem dX7_taking_7 : decode cX7_taking 7 = .ok (.aload_n 0, 1) := by decide +kernel
theorem dX7_taking_8 : decode cX7_taking 8 = .ok (.getfield 7, 3) := by decide +kernel
theorem dX7_taking_11 : decode cX7_taking 11 = .ok (.iconst 1, 1) := by decide +kernel
theorem dX7_taking_12 : decode cX7_taking 12 = .ok (.iaload, 1) := by decide +kernel
theorem dX7_taking_13 : decode cX7_taking 13 = .ok (.if_icmp .ge 87, 3) := by decide +kernel
theorem dX7_taking_16 : decode cX7_taking 16 = .ok (.iload_n 3, 1) := by decide +kernel
theorem dX7_taking_17 : decode cX7_taking 17 = .ok (.aload_n 0, 1) := by decide +kernel
theorem dX7_taking_18 : decode cX7_taking 18 = .ok (.getfield 7, 3) := by decide +kernel
theorem dX7_taking_21 : decode cX7_taking 21 = .ok (.sipush 259, 3) := by decide +kernel
theorem dX7_taking_24 : decode cX7_taking 24 = .ok (.iload 4, 2) := by decide +kernel
theorem dX7_taking_26 : decode cX7_taking 26 = .ok (.iadd, 1) := by decide +kernel
theorem dX7_taking_27 : decode cX7_taking 27 = .ok (.iaload, 1) := by decide +kernel
theorem dX7_taking_28 : decode cX7_taking 28 = .ok (.iadd, 1) := by decide +kernel
theorem dX7_taking_29 : decode cX7_taking 29 = .ok (.istore 5, 2) := by decide +kernel
theorem dX7_taking_31 : decode cX7_taking 31 = .ok (.iload_n 3, 1) := by decide +kernel
theorem dX7_taking_32 : decode cX7_taking 32 = .ok (.iload_n 1, 1) := by decide +kernel
theorem dX7_taking_33 : decode cX7_taking 33 = .ok (.if_icmp .le 7, 3) := by decide +kernel
theorem dX7_taking_36 : decode cX7_taking 36 = .ok (.iload_n 3, 1) := by decide +kernel
theorem dX7_taking_37 : decode cX7_taking 37 = .ok (.goto 4, 3) := by decide +kernel
theorem dX7_taking_40 : decode cX7_taking 40 = .ok (.iload_n 1, 1) := by decide +kernel
theorem dX7_taking_41 : decode cX7_taking 41 = .ok (.istore 6, 2) := by decide +kernel
theorem dX7_taking_43 : decode cX7_taking 43 = .ok (.iload 5, 2) := by decide +kernel
theorem dX7_taking_45 : decode cX7_taking 45 = .ok (.iload_n 1, 1) := by decide +kernel
theorem dX7_taking_46 : decode cX7_taking 46 = .ok (.iload_n 2, 1) := by decide +kernel
theorem dX7_taking_47 : decode cX7_taking 47 = .ok (.iadd, 1) := by decide +kernel
theorem dX7_taking_48 : decode cX7_taking 48 = .ok (.if_icmp .ge 8, 3) := by decide +kernel
theorem dX7_taking_51 : decode cX7_taking 51 = .ok (.iload 5, 2) := by decide +kernel
theorem dX7_taking_53 : decode cX7_taking 53 = .ok (.goto 6, 3) := by decide +kernel
theorem dX7_taking_56 : decode cX7_taking 56 = .ok (.iload_n 1, 1) := by decide +kernel
theorem dX7_taking_57 : decode cX7_taking 57 = .ok (.iload_n 2, 1) := by decide +kernel
theorem dX7_taking_58 : decode cX7_taking 58 = .ok (.iadd, 1) := by decide +kernel
theorem dX7_taking_59 : decode cX7_taking 59 = .ok (.istore 7, 2) := by decide +kernel
theorem dX7_taking_61 : decode cX7_taking 61 = .ok (.aload_n 0, 1) := by decide +kernel
theorem dX7_taking_62 : decode cX7_taking 62 = .ok (.getfield 7, 3) := by decide +kernel
theorem dX7_taking_65 : decode cX7_taking 65 = .ok (.sipush 259, 3) := by decide +kernel
theorem dX7_taking_68 : decode cX7_taking 68 = .ok (.iload 4, 2) := by decide +kernel
theorem dX7_taking_70 : decode cX7_taking 70 = .ok (.iadd, 1) := by decide +kernel
theorem dX7_taking_71 : decode cX7_taking 71 = .ok (.dup2, 1) := by decide +kernel
theorem dX7_taking_72 : decode cX7_taking 72 = .ok (.iaload, 1) := by decide +kernel
theorem dX7_taking_73 : decode cX7_taking 73 = .ok (.iload 7, 2) := by decide +kernel
theorem dX7_taking_75 : decode cX7_taking 75 = .ok (.iload 6, 2) := by decide +kernel
theorem dX7_taking_77 : decode cX7_taking 77 = .ok (.if_icmp .le 11, 3) := by decide +kernel
theorem dX7_taking_80 : decode cX7_taking 80 = .ok (.iload 7, 2) := by decide +kernel
theorem dX7_taking_82 : decode cX7_taking 82 = .ok (.iload 6, 2) := by decide +kernel
theorem dX7_taking_84 : decode cX7_taking 84 = .ok (.isub, 1) := by decide +kernel
theorem dX7_taking_85 : decode cX7_taking 85 = .ok (.goto 4, 3) := by decide +kernel
theorem dX7_taking_88 : decode cX7_taking 88 = .ok (.iconst 0, 1) := by decide +kernel
theorem dX7_taking_89 : decode cX7_taking 89 = .ok (.isub, 1) := by decide +kernel
theorem dX7_taking_90 : decode cX7_taking 90 = .ok (.iastore, 1) := by decide +kernel
theorem dX7_taking_91 : decode cX7_taking 91 = .ok (.iload 5, 2) := by decide +kernel
theorem dX7_taking_93 : decode cX7_taking 93 = .ok (.istore_n 3, 1) := by decide +kernel
theorem dX7_taking_94 : decode cX7_taking 94 = .ok (.iinc 4 1, 3) := by decide +kernel
theorem dX7_taking_97 : decode cX7_taking 97 = .ok (.goto (-92), 3) := by decide +kernel
theorem dX7_taking_100 : decode cX7_taking 100 = .ok (.iconst 0, 1) := by decide +kernel
theorem dX7_taking_101 : decode cX7_taking 101 = .ok (.istore 4, 2) := by decide +kernel
theorem dX7_taking_103 : decode cX7_taking 103 = .ok (.iconst 0, 1) := by decide +kernel
theorem dX7_taking_104 : decode cX7_taking 104 = .ok (.istore 5, 2) := by decide +kernel
theorem dX7_taking_106 : decode cX7_taking 106 = .ok (.iload 5, 2) := by decide +kernel
theorem dX7_taking_108 : decode cX7_taking 108 = .ok (.aload_n 0, 1) := by decide +kernel
theorem dX7_taking_109 : decode cX7_taking 109 = .ok (.getfield 7, 3) := by decide +kernel
theorem dX7_taking_112 : decode cX7_taking 112 = .ok (.iconst 1, 1) := by decide +kernel
theorem dX7_taking_113 : decode cX7_taking 113 = .ok (.iaload, 1) := by decide +kernel
theorem dX7_taking_114 : decode cX7_taking 114 = .ok (.if_icmp .ge 48, 3) := by decide +kernel
theorem dX7_taking_117 : decode cX7_taking 117 = .ok (.aload_n 0, 1) := by decide +kernel
theorem dX7_taking_118 : decode cX7_taking 118 = .ok (.getfield 7, 3) := by decide +kernel
theorem dX7_taking_121 : decode cX7_taking 121 = .ok (.sipush 259, 3) := by decide +kernel
theorem dX7_taking_124 : decode cX7_taking 124 = .ok (.iload 5, 2) := by decide +kernel
theorem dX7_taking_126 : decode cX7_taking 126 = .ok (.iadd, 1) := by decide +kernel
theorem dX7_taking_127 : decode cX7_taking 127 = .ok (.iaload, 1) := by decide +kernel
theorem dX7_taking_128 : decode cX7_taking 128 = .ok (.ifCond .le 28, 3) := by decide +kernel
theorem dX7_taking_131 : decode cX7_taking 131 = .ok (.aload_n 0, 1) := by decide +kernel
theorem dX7_taking_132 : decode cX7_taking 132 = .ok (.getfield 7, 3) := by decide +kernel
theorem dX7_taking_135 : decode cX7_taking 135 = .ok (.sipush 259, 3) := by decide +kernel
theorem dX7_taking_138 : decode cX7_taking 138 = .ok (.iload 4, 2) := by decide +kernel
theorem dX7_taking_140 : decode cX7_taking 140 = .ok (.iadd, 1) := by decide +kernel
theorem dX7_taking_141 : decode cX7_taking 141 = .ok (.aload_n 0, 1) := by decide +kernel
theorem dX7_taking_142 : decode cX7_taking 142 = .ok (.getfield 7, 3) := by decide +kernel
theorem dX7_taking_145 : decode cX7_taking 145 = .ok (.sipush 259, 3) := by decide +kernel
theorem dX7_taking_148 : decode cX7_taking 148 = .ok (.iload 5, 2) := by decide +kernel
theorem dX7_taking_150 : decode cX7_taking 150 = .ok (.iadd, 1) := by decide +kernel
theorem dX7_taking_151 : decode cX7_taking 151 = .ok (.iaload, 1) := by decide +kernel
theorem dX7_taking_152 : decode cX7_taking 152 = .ok (.iastore, 1) := by decide +kernel
theorem dX7_taking_153 : decode cX7_taking 153 = .ok (.iinc 4 1, 3) := by decide +kernel
theorem dX7_taking_156 : decode cX7_taking 156 = .ok (.iinc 5 1, 3) := by decide +kernel
theorem dX7_taking_159 : decode cX7_taking 159 = .ok (.goto (-53), 3) := by decide +kernel
theorem dX7_taking_162 : decode cX7_taking 162 = .ok (.aload_n 0, 1) := by decide +kernel
theorem dX7_taking_163 : decode cX7_taking 163 = .ok (.getfield 7, 3) := by decide +kernel
theorem dX7_taking_166 : decode cX7_taking 166 = .ok (.iconst 1, 1) := by decide +kernel
theorem dX7_taking_167 : decode cX7_taking 167 = .ok (.iload 4, 2) := by decide +kernel
theorem dX7_taking_169 : decode cX7_taking 169 = .ok (.iastore, 1) := by decide +kernel
theorem dX7_taking_170 : decode cX7_taking 170 = .ok (.iload_n 1, 1) := by decide +kernel
theorem dX7_taking_171 : decode cX7_taking 171 = .ok (.istore 5, 2) := by decide +kernel
theorem dX7_taking_173 : decode cX7_taking 173 = .ok (.iload 5, 2) := by decide +kernel
theorem dX7_taking_175 : decode cX7_taking 175 = .ok (.iload_n 2, 1) := by decide +kernel
theorem dX7_taking_176 : decode cX7_taking 176 = .ok (.iadd, 1) := by decide +kernel
theorem dX7_taking_177 : decode cX7_taking 177 = .ok (.aload_n 0, 1) := by decide +kernel
theorem dX7_taking_178 : decode cX7_taking 178 = .ok (.getfield 7, 3) := by decide +kernel
theorem dX7_taking_181 : decode cX7_taking 181 = .ok (.iconst 0, 1) := by decide +kernel
theorem dX7_taking_182 : decode cX7_taking 182 = .ok (.iaload, 1) := by decide +kernel
theorem dX7_taking_183 : decode cX7_taking 183 = .ok (.if_icmp .ge 29, 3) := by decide +kernel
theorem dX7_taking_186 : decode cX7_taking 186 = .ok (.aload_n 0, 1) := by decide +kernel
theorem dX7_taking_187 : decode cX7_taking 187 = .ok (.getfield 7, 3) := by decide +kernel
theorem dX7_taking_190 : decode cX7_taking 190 = .ok (.iconst 3, 1) := by decide +kernel
theorem dX7_taking_191 : decode cX7_taking 191 = .ok (.iload 5, 2) := by decide +kernel
theorem dX7_taking_193 : decode cX7_taking 193 = .ok (.iadd, 1) := by decide +kernel
theorem dX7_taking_194 : decode cX7_taking 194 = .ok (.aload_n 0, 1) := by decide +kernel
theorem dX7_taking_195 : decode cX7_taking 195 = .ok (.getfield 7, 3) := by decide +kernel
theorem dX7_taking_198 : decode cX7_taking 198 = .ok (.iconst 3, 1) := by decide +kernel
theorem dX7_taking_199 : decode cX7_taking 199 = .ok (.iload 5, 2) := by decide +kernel
theorem dX7_taking_201 : decode cX7_taking 201 = .ok (.iadd, 1) := by decide +kernel
theorem dX7_taking_202 : decode cX7_taking 202 = .ok (.iload_n 2, 1) := by decide +kernel
theorem dX7_taking_203 : decode cX7_taking 203 = .ok (.iadd, 1) := by decide +kernel
theorem dX7_taking_204 : decode cX7_taking 204 = .ok (.iaload, 1) := by decide +kernel
theorem dX7_taking_205 : decode cX7_taking 205 = .ok (.iastore, 1) := by decide +kernel
theorem dX7_taking_206 : decode cX7_taking 206 = .ok (.iinc 5 1, 3) := by decide +kernel
theorem dX7_taking_209 : decode cX7_taking 209 = .ok (.goto (-36), 3) := by decide +kernel
theorem dX7_taking_212 : decode cX7_taking 212 = .ok (.aload_n 0, 1) := by decide +kernel
theorem dX7_taking_213 : decode cX7_taking 213 = .ok (.getfield 7, 3) := by decide +kernel
theorem dX7_taking_216 : decode cX7_taking 216 = .ok (.iconst 0, 1) := by decide +kernel
theorem dX7_taking_217 : decode cX7_taking 217 = .ok (.dup2, 1) := by decide +kernel
theorem dX7_taking_218 : decode cX7_taking 218 = .ok (.iaload, 1) := by decide +kernel
theorem dX7_taking_219 : decode cX7_taking 219 = .ok (.iload_n 2, 1) := by decide +kernel
theorem dX7_taking_220 : decode cX7_taking 220 = .ok (.isub, 1) := by decide +kernel
theorem dX7_taking_221 : decode cX7_taking 221 = .ok (.iastore, 1) := by decide +kernel
theorem dX7_taking_222 : decode cX7_taking 222 = .ok (.iload 4, 2) := by decide +kernel
theorem dX7_taking_224 : decode cX7_taking 224 = .ok (.ifCond .le 83, 3) := by decide +kernel
theorem dX7_taking_227 : decode cX7_taking 227 = .ok (.aload_n 0, 1) := by decide +kernel
theorem dX7_taking_228 : decode cX7_taking 228 = .ok (.iload_n 1, 1) := by decide +kernel
theorem dX7_taking_229 : decode cX7_taking 229 = .ok (.invokevirtual 42, 3) := by decide +kernel
theorem dX7_taking_232 : decode cX7_taking 232 = .ok (.istore 5, 2) := by decide +kernel
theorem dX7_taking_234 : decode cX7_taking 234 = .ok (.iload 5, 2) := by decide +kernel
theorem dX7_taking_236 : decode cX7_taking 236 = .ok (.iconst 1, 1) := by decide +kernel
theorem dX7_taking_237 : decode cX7_taking 237 = .ok (.iadd, 1) := by decide +kernel
theorem dX7_taking_238 : decode cX7_taking 238 = .ok (.iload 4, 2) := by decide +kernel
theorem dX7_taking_240 : decode cX7_taking 240 = .ok (.if_icmp .ge 67, 3) := by decide +kernel
theorem dX7_taking_243 : decode cX7_taking 243 = .ok (.aload_n 0, 1) := by decide +kernel
theorem dX7_taking_244 : decode cX7_taking 244 = .ok (.getfield 7, 3) := by decide +kernel
theorem dX7_taking_247 : decode cX7_taking 247 = .ok (.sipush 259, 3) := by decide +kernel
theorem dX7_taking_250 : decode cX7_taking 250 = .ok (.iload 5, 2) := by decide +kernel
theorem dX7_taking_252 : decode cX7_taking 252 = .ok (.iadd, 1) := by decide +kernel
theorem dX7_taking_253 : decode cX7_taking 253 = .ok (.iaload, 1) := by decide +kernel
theorem dX7_taking_254 : decode cX7_taking 254 = .ok (.aload_n 0, 1) := by decide +kernel
theorem dX7_taking_255 : decode cX7_taking 255 = .ok (.getfield 7, 3) := by decide +kernel
theorem dX7_taking_258 : decode cX7_taking 258 = .ok (.sipush 259, 3) := by decide +kernel
theorem dX7_taking_261 : decode cX7_taking 261 = .ok (.iload 5, 2) := by decide +kernel
theorem dX7_taking_263 : decode cX7_taking 263 = .ok (.iadd, 1) := by decide +kernel
theorem dX7_taking_264 : decode cX7_taking 264 = .ok (.iconst 1, 1) := by decide +kernel
theorem dX7_taking_265 : decode cX7_taking 265 = .ok (.iadd, 1) := by decide +kernel
theorem dX7_taking_266 : decode cX7_taking 266 = .ok (.iaload, 1) := by decide +kernel
theorem dX7_taking_267 : decode cX7_taking 267 = .ok (.iadd, 1) := by decide +kernel
theorem dX7_taking_268 : decode cX7_taking 268 = .ok (.bipush 8, 2) := by decide +kernel
theorem dX7_taking_270 : decode cX7_taking 270 = .ok (.if_icmp .gt 37, 3) := by decide +kernel
theorem dX7_taking_273 : decode cX7_taking 273 = .ok (.aload_n 0, 1) := by decide +kernel
theorem dX7_taking_274 : decode cX7_taking 274 = .ok (.getfield 7, 3) := by decide +kernel
theorem dX7_taking_277 : decode cX7_taking 277 = .ok (.sipush 259, 3) := by decide +kernel
theorem dX7_taking_280 : decode cX7_taking 280 = .ok (.iload 5, 2) := by decide +kernel
theorem dX7_taking_282 : decode cX7_taking 282 = .ok (.iadd, 1) := by decide +kernel
theorem dX7_taking_283 : decode cX7_taking 283 = .ok (.dup2, 1) := by decide +kernel
theorem dX7_taking_284 : decode cX7_taking 284 = .ok (.iaload, 1) := by decide +kernel
theorem dX7_taking_285 : decode cX7_taking 285 = .ok (.aload_n 0, 1) := by decide +kernel
theorem dX7_taking_286 : decode cX7_taking 286 = .ok (.getfield 7, 3) := by decide +kernel
theorem dX7_taking_289 : decode cX7_taking 289 = .ok (.sipush 259, 3) := by decide +kernel
theorem dX7_taking_292 : decode cX7_taking 292 = .ok (.iload 5, 2) := by decide +kernel
theorem dX7_taking_294 : decode cX7_taking 294 = .ok (.iadd, 1) := by decide +kernel
theorem dX7_taking_295 : decode cX7_taking 295 = .ok (.iconst 1, 1) := by decide +kernel
theorem dX7_taking_296 : decode cX7_taking 296 = .ok (.iadd, 1) := by decide +kernel
theorem dX7_taking_297 : decode cX7_taking 297 = .ok (.iaload, 1) := by decide +kernel
theorem dX7_taking_298 : decode cX7_taking 298 = .ok (.iadd, 1) := by decide +kernel
theorem dX7_taking_299 : decode cX7_taking 299 = .ok (.iastore, 1) := by decide +kernel
theorem dX7_taking_300 : decode cX7_taking 300 = .ok (.aload_n 0, 1) := by decide +kernel
theorem dX7_taking_301 : decode cX7_taking 301 = .ok (.iload 5, 2) := by decide +kernel
theorem dX7_taking_303 : decode cX7_taking 303 = .ok (.iconst (-1), 1) := by decide +kernel
theorem dX7_taking_304 : decode cX7_taking 304 = .ok (.invokevirtual 46, 3) := by decide +kernel
theorem dX7_taking_307 : decode cX7_taking 307 = .ok (.sipush 515, 3) := by decide +kernel
theorem dX7_taking_310 : decode cX7_taking 310 = .ok (.istore 5, 2) := by decide +kernel
theorem dX7_taking_312 : decode cX7_taking 312 = .ok (.iload 5, 2) := by decide +kernel
theorem dX7_taking_314 : decode cX7_taking 314 = .ok (.sipush 541, 3) := by decide +kernel
theorem dX7_taking_317 : decode cX7_taking 317 = .ok (.if_icmp .ge 28, 3) := by decide +kernel
theorem dX7_taking_320 : decode cX7_taking 320 = .ok (.aload_n 0, 1) := by decide +kernel
theorem dX7_taking_321 : decode cX7_taking 321 = .ok (.getfield 7, 3) := by decide +kernel
theorem dX7_taking_324 : decode cX7_taking 324 = .ok (.iload 5, 2) := by decide +kernel
theorem dX7_taking_326 : decode cX7_taking 326 = .ok (.aload_n 0, 1) := by decide +kernel
theorem dX7_taking_327 : decode cX7_taking 327 = .ok (.getfield 7, 3) := by decide +kernel
theorem dX7_taking_330 : decode cX7_taking 330 = .ok (.iload 5, 2) := by decide +kernel
theorem dX7_taking_332 : decode cX7_taking 332 = .ok (.iaload, 1) := by decide +kernel
theorem dX7_taking_333 : decode cX7_taking 333 = .ok (.iload_n 1, 1) := by decide +kernel
theorem dX7_taking_334 : decode cX7_taking 334 = .ok (.iload_n 2, 1) := by decide +kernel
theorem dX7_taking_335 : decode cX7_taking 335 = .ok (.invokestatic 50, 3) := by decide +kernel
theorem dX7_taking_338 : decode cX7_taking 338 = .ok (.iastore, 1) := by decide +kernel
theorem dX7_taking_339 : decode cX7_taking 339 = .ok (.iinc 5 1, 3) := by decide +kernel
theorem dX7_taking_342 : decode cX7_taking 342 = .ok (.goto (-30), 3) := by decide +kernel
theorem dX7_taking_345 : decode cX7_taking 345 = .ok (.aload_n 0, 1) := by decide +kernel
theorem dX7_taking_346 : decode cX7_taking 346 = .ok (.getfield 7, 3) := by decide +kernel
theorem dX7_taking_349 : decode cX7_taking 349 = .ok (.iconst 2, 1) := by decide +kernel
theorem dX7_taking_350 : decode cX7_taking 350 = .ok (.aload_n 0, 1) := by decide +kernel
theorem dX7_taking_351 : decode cX7_taking 351 = .ok (.getfield 7, 3) := by decide +kernel
theorem dX7_taking_354 : decode cX7_taking 354 = .ok (.iconst 2, 1) := by decide +kernel
theorem dX7_taking_355 : decode cX7_taking 355 = .ok (.iaload, 1) := by decide +kernel
theorem dX7_taking_356 : decode cX7_taking 356 = .ok (.iload_n 1, 1) := by decide +kernel
theorem dX7_taking_357 : decode cX7_taking 357 = .ok (.iload_n 2, 1) := by decide +kernel
theorem dX7_taking_358 : decode cX7_taking 358 = .ok (.invokestatic 50, 3) := by decide +kernel
theorem dX7_taking_361 : decode cX7_taking 361 = .ok (.iastore, 1) := by decide +kernel
theorem dX7_taking_362 : decode cX7_taking 362 = .ok (.return_, 1) := by decide +kernel
theorem dX7_edit_0 : decode cX7_edit 0 = .ok (.iload_n 2, 1) := by decide +kernel
theorem dX7_edit_1 : decode cX7_edit 1 = .ok (.ifCond .le 9, 3) := by decide +kernel
theorem dX7_edit_4 : decode cX7_edit 4 = .ok (.aload_n 0, 1) := by decide +kernel
theorem dX7_edit_5 : decode cX7_edit 5 = .ok (.iload_n 1, 1) := by decide +kernel
theorem dX7_edit_6 : decode cX7_edit 6 = .ok (.iload_n 2, 1) := by decide +kernel
theorem dX7_edit_7 : decode cX7_edit 7 = .ok (.invokevirtual 54, 3) := by decide +kernel
theorem dX7_edit_10 : decode cX7_edit 10 = .ok (.iload 5, 2) := by decide +kernel
theorem dX7_edit_12 : decode cX7_edit 12 = .ok (.ifCond .le 13, 3) := by decide +kernel
theorem dX7_edit_15 : decode cX7_edit 15 = .ok (.aload_n 0, 1) := by decide +kernel
theorem dX7_edit_16 : decode cX7_edit 16 = .ok (.iload_n 1, 1) := by decide +kernel
theorem dX7_edit_17 : decode cX7_edit 17 = .ok (.aload_n 3, 1) := by decide +kernel
theorem dX7_edit_18 : decode cX7_edit 18 = .ok (.iload 4, 2) := by decide +kernel
theorem dX7_edit_20 : decode cX7_edit 20 = .ok (.iload 5, 2) := by decide +kernel
theorem dX7_edit_22 : decode cX7_edit 22 = .ok (.invokevirtual 57, 3) := by decide +kernel
theorem dX7_edit_25 : decode cX7_edit 25 = .ok (.return_, 1) := by decide +kernel
theorem dX7_keeps_0 : decode cX7_keeps 0 = .ok (.aload_n 0, 1) := by decide +kernel
theorem dX7_keeps_1 : decode cX7_keeps 1 = .ok (.getfield 61, 3) := by decide +kernel
theorem dX7_keeps_4 : decode cX7_keeps 4 = .ok (.bipush 8, 2) := by decide +kernel
theorem dX7_keeps_6 : decode cX7_keeps 6 = .ok (.if_icmp .ne 44, 3) := by decide +kernel
theorem dX7_keeps_9 : decode cX7_keeps 9 = .ok (.iconst 0, 1) := by decide +kernel
theorem dX7_keeps_10 : decode cX7_keeps 10 = .ok (.istore_n 1, 1) := by decide +kernel
theorem dX7_keeps_11 : decode cX7_keeps 11 = .ok (.iload_n 1, 1) := by decide +kernel
theorem dX7_keeps_12 : decode cX7_keeps 12 = .ok (.sipush 3787, 3) := by decide +kernel
theorem dX7_keeps_15 : decode cX7_keeps 15 = .ok (.if_icmp .ge 25, 3) := by decide +kernel
theorem dX7_keeps_18 : decode cX7_keeps 18 = .ok (.aload_n 0, 1) := by decide +kernel
theorem dX7_keeps_19 : decode cX7_keeps 19 = .ok (.getfield 13, 3) := by decide +kernel
theorem dX7_keeps_22 : decode cX7_keeps 22 = .ok (.iload_n 1, 1) := by decide +kernel
theorem dX7_keeps_23 : decode cX7_keeps 23 = .ok (.aload_n 0, 1) := by decide +kernel
theorem dX7_keeps_24 : decode cX7_keeps 24 = .ok (.getfield 13, 3) := by decide +kernel
theorem dX7_keeps_27 : decode cX7_keeps 27 = .ok (.iload_n 1, 1) := by decide +kernel
theorem dX7_keeps_28 : decode cX7_keeps 28 = .ok (.sipush 541, 3) := by decide +kernel
theorem dX7_keeps_31 : decode cX7_keeps 31 = .ok (.iadd, 1) := by decide +kernel
theorem dX7_keeps_32 : decode cX7_keeps 32 = .ok (.iaload, 1) := by decide +kernel
theorem dX7_keeps_33 : decode cX7_keeps 33 = .ok (.iastore, 1) := by decide +kernel
theorem dX7_keeps_34 : decode cX7_keeps 34 = .ok (.iinc 1 1, 3) := by decide +kernel
theorem dX7_keeps_37 : decode cX7_keeps 37 = .ok (.goto (-26), 3) := by decide +kernel
theorem dX7_keeps_40 : decode cX7_keeps 40 = .ok (.aload_n 0, 1) := by decide +kernel
theorem dX7_keeps_41 : decode cX7_keeps 41 = .ok (.dup, 1) := by decide +kernel
theorem dX7_keeps_42 : decode cX7_keeps 42 = .ok (.getfield 61, 3) := by decide +kernel
theorem dX7_keeps_45 : decode cX7_keeps 45 = .ok (.iconst 1, 1) := by decide +kernel
theorem dX7_keeps_46 : decode cX7_keeps 46 = .ok (.isub, 1) := by decide +kernel
theorem dX7_keeps_47 : decode cX7_keeps 47 = .ok (.putfield 61, 3) := by decide +kernel
theorem dX7_keeps_50 : decode cX7_keeps 50 = .ok (.iconst 0, 1) := by decide +kernel
theorem dX7_keeps_51 : decode cX7_keeps 51 = .ok (.istore_n 1, 1) := by decide +kernel
theorem dX7_keeps_52 : decode cX7_keeps 52 = .ok (.iload_n 1, 1) := by decide +kernel
theorem dX7_keeps_53 : decode cX7_keeps 53 = .ok (.sipush 541, 3) := by decide +kernel
theorem dX7_keeps_56 : decode cX7_keeps 56 = .ok (.if_icmp .ge 30, 3) := by decide +kernel
theorem dX7_keeps_59 : decode cX7_keeps 59 = .ok (.aload_n 0, 1) := by decide +kernel
theorem dX7_keeps_60 : decode cX7_keeps 60 = .ok (.getfield 13, 3) := by decide +kernel
theorem dX7_keeps_63 : decode cX7_keeps 63 = .ok (.sipush 541, 3) := by decide +kernel
theorem dX7_keeps_66 : decode cX7_keeps 66 = .ok (.aload_n 0, 1) := by decide +kernel
theorem dX7_keeps_67 : decode cX7_keeps 67 = .ok (.getfield 61, 3) := by decide +kernel
theorem dX7_keeps_70 : decode cX7_keeps 70 = .ok (.imul, 1) := by decide +kernel
theorem dX7_keeps_71 : decode cX7_keeps 71 = .ok (.iload_n 1, 1) := by decide +kernel
theorem dX7_keeps_72 : decode cX7_keeps 72 = .ok (.iadd, 1) := by decide +kernel
theorem dX7_keeps_73 : decode cX7_keeps 73 = .ok (.aload_n 0, 1) := by decide +kernel
theorem dX7_keeps_74 : decode cX7_keeps 74 = .ok (.getfield 7, 3) := by decide +kernel
theorem dX7_keeps_77 : decode cX7_keeps 77 = .ok (.iload_n 1, 1) := by decide +kernel
theorem dX7_keeps_78 : decode cX7_keeps 78 = .ok (.iaload, 1) := by decide +kernel
theorem dX7_keeps_79 : decode cX7_keeps 79 = .ok (.iastore, 1) := by decide +kernel
theorem dX7_keeps_80 : decode cX7_keeps 80 = .ok (.iinc 1 1, 3) := by decide +kernel
theorem dX7_keeps_83 : decode cX7_keeps 83 = .ok (.goto (-31), 3) := by decide +kernel
theorem dX7_keeps_86 : decode cX7_keeps 86 = .ok (.aload_n 0, 1) := by decide +kernel
theorem dX7_keeps_87 : decode cX7_keeps 87 = .ok (.dup, 1) := by decide +kernel
theorem dX7_keeps_88 : decode cX7_keeps 88 = .ok (.getfield 61, 3) := by decide +kernel
theorem dX7_keeps_91 : decode cX7_keeps 91 = .ok (.iconst 1, 1) := by decide +kernel
theorem dX7_keeps_92 : decode cX7_keeps 92 = .ok (.iadd, 1) := by decide +kernel
theorem dX7_keeps_93 : decode cX7_keeps 93 = .ok (.putfield 61, 3) := by decide +kernel
theorem dX7_keeps_96 : decode cX7_keeps 96 = .ok (.return_, 1) := by decide +kernel
theorem dX7_type_0 : decode cX7_type 0 = .ok (.iload_n 1, 1) := by decide +kernel
theorem dX7_type_1 : decode cX7_type 1 = .ok (.iconst 0, 1) := by decide +kernel
theorem dX7_type_2 : decode cX7_type 2 = .ok (.sipush 255, 3) := by decide +kernel
theorem dX7_type_5 : decode cX7_type 5 = .ok (.invokestatic 38, 3) := by decide +kernel
theorem dX7_type_8 : decode cX7_type 8 = .ok (.ifCond .ne 5, 3) := by decide +kernel
theorem dX7_type_11 : decode cX7_type 11 = .ok (.iconst (-1), 1) := by decide +kernel
theorem dX7_type_12 : decode cX7_type 12 = .ok (.ireturn, 1) := by decide +kernel
theorem dX7_type_13 : decode cX7_type 13 = .ok (.aload_n 0, 1) := by decide +kernel
theorem dX7_type_14 : decode cX7_type 14 = .ok (.getfield 65, 3) := by decide +kernel
theorem dX7_type_17 : decode cX7_type 17 = .ok (.bipush 24, 2) := by decide +kernel
theorem dX7_type_19 : decode cX7_type 19 = .ok (.if_icmp .ne 6, 3) := by decide +kernel
theorem dX7_type_22 : decode cX7_type 22 = .ok (.bipush (-3), 2) := by decide +kernel
theorem dX7_type_24 : decode cX7_type 24 = .ok (.ireturn, 1) := by decide +kernel
theorem dX7_type_25 : decode cX7_type 25 = .ok (.aload_n 0, 1) := by decide +kernel
theorem dX7_type_26 : decode cX7_type 26 = .ok (.getfield 23, 3) := by decide +kernel
theorem dX7_type_29 : decode cX7_type 29 = .ok (.aload_n 0, 1) := by decide +kernel
theorem dX7_type_30 : decode cX7_type 30 = .ok (.getfield 65, 3) := by decide +kernel
theorem dX7_type_33 : decode cX7_type 33 = .ok (.iload_n 1, 1) := by decide +kernel
theorem dX7_type_34 : decode cX7_type 34 = .ok (.iastore, 1) := by decide +kernel
theorem dX7_type_35 : decode cX7_type 35 = .ok (.aload_n 0, 1) := by decide +kernel
theorem dX7_type_36 : decode cX7_type 36 = .ok (.dup, 1) := by decide +kernel
theorem dX7_type_37 : decode cX7_type 37 = .ok (.getfield 65, 3) := by decide +kernel
theorem dX7_type_40 : decode cX7_type 40 = .ok (.iconst 1, 1) := by decide +kernel
theorem dX7_type_41 : decode cX7_type 41 = .ok (.iadd, 1) := by decide +kernel
theorem dX7_type_42 : decode cX7_type 42 = .ok (.putfield 65, 3) := by decide +kernel
theorem dX7_type_45 : decode cX7_type 45 = .ok (.aload_n 0, 1) := by decide +kernel
theorem dX7_type_46 : decode cX7_type 46 = .ok (.getfield 65, 3) := by decide +kernel
theorem dX7_type_49 : decode cX7_type 49 = .ok (.ireturn, 1) := by decide +kernel
theorem dX7_clear_0 : decode cX7_clear 0 = .ok (.aload_n 0, 1) := by decide +kernel
theorem dX7_clear_1 : decode cX7_clear 1 = .ok (.getfield 65, 3) := by decide +kernel
theorem dX7_clear_4 : decode cX7_clear 4 = .ok (.istore_n 1, 1) := by decide +kernel
theorem dX7_clear_5 : decode cX7_clear 5 = .ok (.aload_n 0, 1) := by decide +kernel
theorem dX7_clear_6 : decode cX7_clear 6 = .ok (.iconst 0, 1) := by decide +kernel
theorem dX7_clear_7 : decode cX7_clear 7 = .ok (.putfield 65, 3) := by decide +kernel
theorem dX7_clear_10 : decode cX7_clear 10 = .ok (.iload_n 1, 1) := by decide +kernel
theorem dX7_clear_11 : decode cX7_clear 11 = .ok (.ireturn, 1) := by decide +kernel
theorem dX7_isEdit_0 : decode cX7_isEdit 0 = .ok (.aload_n 0, 1) := by decide +kernel
theorem dX7_isEdit_1 : decode cX7_isEdit 1 = .ok (.iload_n 1, 1) := by decide +kernel
theorem dX7_isEdit_2 : decode cX7_isEdit 2 = .ok (.invokevirtual 68, 3) := by decide +kernel
theorem dX7_isEdit_5 : decode cX7_isEdit 5 = .ok (.ifCond .eq 23, 3) := by decide +kernel
theorem dX7_isEdit_8 : decode cX7_isEdit 8 = .ok (.iload_n 2, 1) := by decide +kernel
theorem dX7_isEdit_9 : decode cX7_isEdit 9 = .ok (.iconst 0, 1) := by decide +kernel
theorem dX7_isEdit_10 : decode cX7_isEdit 10 = .ok (.aload_n 0, 1) := by decide +kernel
theorem dX7_isEdit_11 : decode cX7_isEdit 11 = .ok (.getfield 7, 3) := by decide +kernel
theorem dX7_isEdit_14 : decode cX7_isEdit 14 = .ok (.iconst 0, 1) := by decide +kernel
theorem dX7_isEdit_15 : decode cX7_isEdit 15 = .ok (.iaload, 1) := by decide +kernel
theorem dX7_isEdit_16 : decode cX7_isEdit 16 = .ok (.iload_n 1, 1) := by decide +kernel
theorem dX7_isEdit_17 : decode cX7_isEdit 17 = .ok (.isub, 1) := by decide +kernel
theorem dX7_isEdit_18 : decode cX7_isEdit 18 = .ok (.invokestatic 38, 3) := by decide +kernel
theorem dX7_isEdit_21 : decode cX7_isEdit 21 = .ok (.ifCond .eq 7, 3) := by decide +kernel
theorem dX7_isEdit_24 : decode cX7_isEdit 24 = .ok (.iconst 1, 1) := by decide +kernel
theorem dX7_isEdit_25 : decode cX7_isEdit 25 = .ok (.goto 4, 3) := by decide +kernel
theorem dX7_isEdit_28 : decode cX7_isEdit 28 = .ok (.iconst 0, 1) := by decide +kernel
theorem dX7_isEdit_29 : decode cX7_isEdit 29 = .ok (.ireturn, 1) := by decide +kernel
theorem dX7_edits_0 : decode cX7_edits 0 = .ok (.aload_n 0, 1) := by decide +kernel
theorem dX7_edits_1 : decode cX7_edits 1 = .ok (.iload_n 1, 1) := by decide +kernel
theorem dX7_edits_2 : decode cX7_edits 2 = .ok (.iload_n 2, 1) := by decide +kernel
theorem dX7_edits_3 : decode cX7_edits 3 = .ok (.invokevirtual 72, 3) := by decide +kernel
theorem dX7_edits_6 : decode cX7_edits 6 = .ok (.ifCond .ne 5, 3) := by decide +kernel
theorem dX7_edits_9 : decode cX7_edits 9 = .ok (.iconst (-1), 1) := by decide +kernel
theorem dX7_edits_10 : decode cX7_edits 10 = .ok (.ireturn, 1) := by decide +kernel
theorem dX7_edits_11 : decode cX7_edits 11 = .ok (.aload_n 0, 1) := by decide +kernel
theorem dX7_edits_12 : decode cX7_edits 12 = .ok (.getfield 76, 3) := by decide +kernel
theorem dX7_edits_15 : decode cX7_edits 15 = .ok (.ifCond .le 6, 3) := by decide +kernel
theorem dX7_edits_18 : decode cX7_edits 18 = .ok (.bipush (-2), 2) := by decide +kernel
theorem dX7_edits_20 : decode cX7_edits 20 = .ok (.ireturn, 1) := by decide +kernel
theorem dX7_edits_21 : decode cX7_edits 21 = .ok (.aload_n 0, 1) := by decide +kernel
theorem dX7_edits_22 : decode cX7_edits 22 = .ok (.getfield 7, 3) := by decide +kernel
theorem dX7_edits_25 : decode cX7_edits 25 = .ok (.iconst 0, 1) := by decide +kernel
theorem dX7_edits_26 : decode cX7_edits 26 = .ok (.iaload, 1) := by decide +kernel
theorem dX7_edits_27 : decode cX7_edits 27 = .ok (.iload_n 2, 1) := by decide +kernel
theorem dX7_edits_28 : decode cX7_edits 28 = .ok (.isub, 1) := by decide +kernel
theorem dX7_edits_29 : decode cX7_edits 29 = .ok (.aload_n 0, 1) := by decide +kernel
theorem dX7_edits_30 : decode cX7_edits 30 = .ok (.getfield 65, 3) := by decide +kernel
theorem dX7_edits_33 : decode cX7_edits 33 = .ok (.iadd, 1) := by decide +kernel
theorem dX7_edits_34 : decode cX7_edits 34 = .ok (.bipush 120, 2) := by decide +kernel
theorem dX7_edits_36 : decode cX7_edits 36 = .ok (.if_icmp .le 6, 3) := by decide +kernel
theorem dX7_edits_39 : decode cX7_edits 39 = .ok (.bipush (-3), 2) := by decide +kernel
theorem dX7_edits_41 : decode cX7_edits 41 = .ok (.ireturn, 1) := by decide +kernel
theorem dX7_edits_42 : decode cX7_edits 42 = .ok (.aload_n 0, 1) := by decide +kernel
theorem dX7_edits_43 : decode cX7_edits 43 = .ok (.invokevirtual 79, 3) := by decide +kernel
theorem dX7_edits_46 : decode cX7_edits 46 = .ok (.aload_n 0, 1) := by decide +kernel
theorem dX7_edits_47 : decode cX7_edits 47 = .ok (.iload_n 1, 1) := by decide +kernel
theorem dX7_edits_48 : decode cX7_edits 48 = .ok (.iload_n 2, 1) := by decide +kernel
theorem dX7_edits_49 : decode cX7_edits 49 = .ok (.aload_n 0, 1) := by decide +kernel
theorem dX7_edits_50 : decode cX7_edits 50 = .ok (.getfield 23, 3) := by decide +kernel
theorem dX7_edits_53 : decode cX7_edits 53 = .ok (.iconst 0, 1) := by decide +kernel
theorem dX7_edits_54 : decode cX7_edits 54 = .ok (.aload_n 0, 1) := by decide +kernel
theorem dX7_edits_55 : decode cX7_edits 55 = .ok (.getfield 65, 3) := by decide +kernel
theorem dX7_edits_58 : decode cX7_edits 58 = .ok (.invokevirtual 82, 3) := by decide +kernel
theorem dX7_edits_61 : decode cX7_edits 61 = .ok (.aload_n 0, 1) := by decide +kernel
theorem dX7_edits_62 : decode cX7_edits 62 = .ok (.iconst 0, 1) := by decide +kernel
theorem dX7_edits_63 : decode cX7_edits 63 = .ok (.putfield 65, 3) := by decide +kernel
theorem dX7_edits_66 : decode cX7_edits 66 = .ok (.aload_n 0, 1) := by decide +kernel
theorem dX7_edits_67 : decode cX7_edits 67 = .ok (.getfield 7, 3) := by decide +kernel
theorem dX7_edits_70 : decode cX7_edits 70 = .ok (.iconst 0, 1) := by decide +kernel
theorem dX7_edits_71 : decode cX7_edits 71 = .ok (.iaload, 1) := by decide +kernel
theorem dX7_edits_72 : decode cX7_edits 72 = .ok (.ireturn, 1) := by decide +kernel
theorem dX7_stages_0 : decode cX7_stages 0 = .ok (.aload_n 0, 1) := by decide +kernel
theorem dX7_stages_1 : decode cX7_stages 1 = .ok (.iload_n 1, 1) := by decide +kernel
theorem dX7_stages_2 : decode cX7_stages 2 = .ok (.iload_n 2, 1) := by decide +kernel
theorem dX7_stages_3 : decode cX7_stages 3 = .ok (.invokevirtual 72, 3) := by decide +kernel
theorem dX7_stages_6 : decode cX7_stages 6 = .ok (.ifCond .ne 5, 3) := by decide +kernel
theorem dX7_stages_9 : decode cX7_stages 9 = .ok (.iconst (-1), 1) := by decide +kernel
theorem dX7_stages_10 : decode cX7_stages 10 = .ok (.ireturn, 1) := by decide +kernel
theorem dX7_stages_11 : decode cX7_stages 11 = .ok (.iconst 0, 1) := by decide +kernel
theorem dX7_stages_12 : decode cX7_stages 12 = .ok (.istore_n 3, 1) := by decide +kernel
theorem dX7_stages_13 : decode cX7_stages 13 = .ok (.iload_n 3, 1) := by decide +kernel
theorem dX7_stages_14 : decode cX7_stages 14 = .ok (.aload_n 0, 1) := by decide +kernel
theorem dX7_stages_15 : decode cX7_stages 15 = .ok (.getfield 76, 3) := by decide +kernel
theorem dX7_stages_18 : decode cX7_stages 18 = .ok (.if_icmp .ge 41, 3) := by decide +kernel
theorem dX7_stages_21 : decode cX7_stages 21 = .ok (.iload_n 1, 1) := by decide +kernel
theorem dX7_stages_22 : decode cX7_stages 22 = .ok (.aload_n 0, 1) := by decide +kernel
theorem dX7_stages_23 : decode cX7_stages 23 = .ok (.getfield 26, 3) := by decide +kernel
theorem dX7_stages_26 : decode cX7_stages 26 = .ok (.iload_n 3, 1) := by decide +kernel
theorem dX7_stages_27 : decode cX7_stages 27 = .ok (.iaload, 1) := by decide +kernel
theorem dX7_stages_28 : decode cX7_stages 28 = .ok (.aload_n 0, 1) := by decide +kernel
theorem dX7_stages_29 : decode cX7_stages 29 = .ok (.getfield 29, 3) := by decide +kernel
theorem dX7_stages_32 : decode cX7_stages 32 = .ok (.iload_n 3, 1) := by decide +kernel
theorem dX7_stages_33 : decode cX7_stages 33 = .ok (.iaload, 1) := by decide +kernel
theorem dX7_stages_34 : decode cX7_stages 34 = .ok (.iadd, 1) := by decide +kernel
theorem dX7_stages_35 : decode cX7_stages 35 = .ok (.if_icmp .gt 18, 3) := by decide +kernel
theorem dX7_stages_38 : decode cX7_stages 38 = .ok (.aload_n 0, 1) := by decide +kernel
theorem dX7_stages_39 : decode cX7_stages 39 = .ok (.getfield 26, 3) := by decide +kernel
theorem dX7_stages_42 : decode cX7_stages 42 = .ok (.iload_n 3, 1) := by decide +kernel
theorem dX7_stages_43 : decode cX7_stages 43 = .ok (.iaload, 1) := by decide +kernel
theorem dX7_stages_44 : decode cX7_stages 44 = .ok (.iload_n 1, 1) := by decide +kernel
theorem dX7_stages_45 : decode cX7_stages 45 = .ok (.iload_n 2, 1) := by decide +kernel
theorem dX7_stages_46 : decode cX7_stages 46 = .ok (.iadd, 1) := by decide +kernel
theorem dX7_stages_47 : decode cX7_stages 47 = .ok (.if_icmp .gt 6, 3) := by decide +kernel
theorem dX7_stages_50 : decode cX7_stages 50 = .ok (.bipush (-2), 2) := by decide +kernel
theorem dX7_stages_52 : decode cX7_stages 52 = .ok (.ireturn, 1) := by decide +kernel
theorem dX7_stages_53 : decode cX7_stages 53 = .ok (.iinc 3 1, 3) := by decide +kernel
theorem dX7_stages_56 : decode cX7_stages 56 = .ok (.goto (-43), 3) := by decide +kernel
theorem dX7_stages_59 : decode cX7_stages 59 = .ok (.aload_n 0, 1) := by decide +kernel
theorem dX7_stages_60 : decode cX7_stages 60 = .ok (.getfield 76, 3) := by decide +kernel
theorem dX7_stages_63 : decode cX7_stages 63 = .ok (.iconst 4, 1) := by decide +kernel
theorem dX7_stages_64 : decode cX7_stages 64 = .ok (.if_icmp .ne 6, 3) := by decide +kernel
theorem dX7_stages_67 : decode cX7_stages 67 = .ok (.bipush (-3), 2) := by decide +kernel
theorem dX7_stages_69 : decode cX7_stages 69 = .ok (.ireturn, 1) := by decide +kernel
theorem dX7_stages_70 : decode cX7_stages 70 = .ok (.aload_n 0, 1) := by decide +kernel
theorem dX7_stages_71 : decode cX7_stages 71 = .ok (.getfield 26, 3) := by decide +kernel
theorem dX7_stages_74 : decode cX7_stages 74 = .ok (.aload_n 0, 1) := by decide +kernel
theorem dX7_stages_75 : decode cX7_stages 75 = .ok (.getfield 76, 3) := by decide +kernel
theorem dX7_stages_78 : decode cX7_stages 78 = .ok (.iload_n 1, 1) := by decide +kernel
theorem dX7_stages_79 : decode cX7_stages 79 = .ok (.iastore, 1) := by decide +kernel
theorem dX7_stages_80 : decode cX7_stages 80 = .ok (.aload_n 0, 1) := by decide +kernel
theorem dX7_stages_81 : decode cX7_stages 81 = .ok (.getfield 29, 3) := by decide +kernel
theorem dX7_stages_84 : decode cX7_stages 84 = .ok (.aload_n 0, 1) := by decide +kernel
theorem dX7_stages_85 : decode cX7_stages 85 = .ok (.getfield 76, 3) := by decide +kernel
theorem dX7_stages_88 : decode cX7_stages 88 = .ok (.iload_n 2, 1) := by decide +kernel
theorem dX7_stages_89 : decode cX7_stages 89 = .ok (.iastore, 1) := by decide +kernel
theorem dX7_stages_90 : decode cX7_stages 90 = .ok (.iconst 0, 1) := by decide +kernel
theorem dX7_stages_91 : decode cX7_stages 91 = .ok (.istore_n 3, 1) := by decide +kernel
theorem dX7_stages_92 : decode cX7_stages 92 = .ok (.iload_n 3, 1) := by decide +kernel
theorem dX7_stages_93 : decode cX7_stages 93 = .ok (.aload_n 0, 1) := by decide +kernel
theorem dX7_stages_94 : decode cX7_stages 94 = .ok (.getfield 65, 3) := by decide +kernel
theorem dX7_stages_97 : decode cX7_stages 97 = .ok (.if_icmp .ge 29, 3) := by decide +kernel
theorem dX7_stages_100 : decode cX7_stages 100 = .ok (.aload_n 0, 1) := by decide +kernel
theorem dX7_stages_101 : decode cX7_stages 101 = .ok (.getfield 32, 3) := by decide +kernel
theorem dX7_stages_104 : decode cX7_stages 104 = .ok (.bipush 24, 2) := by decide +kernel
theorem dX7_stages_106 : decode cX7_stages 106 = .ok (.aload_n 0, 1) := by decide +kernel
theorem dX7_stages_107 : decode cX7_stages 107 = .ok (.getfield 76, 3) := by decide +kernel
theorem dX7_stages_110 : decode cX7_stages 110 = .ok (.imul, 1) := by decide +kernel
theorem dX7_stages_111 : decode cX7_stages 111 = .ok (.iload_n 3, 1) := by decide +kernel
theorem dX7_stages_112 : decode cX7_stages 112 = .ok (.iadd, 1) := by decide +kernel
theorem dX7_stages_113 : decode cX7_stages 113 = .ok (.aload_n 0, 1) := by decide +kernel
theorem dX7_stages_114 : decode cX7_stages 114 = .ok (.getfield 23, 3) := by decide +kernel
theorem dX7_stages_117 : decode cX7_stages 117 = .ok (.iload_n 3, 1) := by decide +kernel
theorem dX7_stages_118 : decode cX7_stages 118 = .ok (.iaload, 1) := by decide +kernel
theorem dX7_stages_119 : decode cX7_stages 119 = .ok (.iastore, 1) := by decide +kernel
theorem dX7_stages_120 : decode cX7_stages 120 = .ok (.iinc 3 1, 3) := by decide +kernel
theorem dX7_stages_123 : decode cX7_stages 123 = .ok (.goto (-31), 3) := by decide +kernel
theorem dX7_stages_126 : decode cX7_stages 126 = .ok (.aload_n 0, 1) := by decide +kernel
theorem dX7_stages_127 : decode cX7_stages 127 = .ok (.getfield 35, 3) := by decide +kernel
theorem dX7_stages_130 : decode cX7_stages 130 = .ok (.aload_n 0, 1) := by decide +kernel
theorem dX7_stages_131 : decode cX7_stages 131 = .ok (.getfield 76, 3) := by decide +kernel
theorem dX7_stages_134 : decode cX7_stages 134 = .ok (.aload_n 0, 1) := by decide +kernel
theorem dX7_stages_135 : decode cX7_stages 135 = .ok (.getfield 65, 3) := by decide +kernel
theorem dX7_stages_138 : decode cX7_stages 138 = .ok (.iastore, 1) := by decide +kernel
theorem dX7_stages_139 : decode cX7_stages 139 = .ok (.aload_n 0, 1) := by decide +kernel
theorem dX7_stages_140 : decode cX7_stages 140 = .ok (.iconst 0, 1) := by decide +kernel
theorem dX7_stages_141 : decode cX7_stages 141 = .ok (.putfield 65, 3) := by decide +kernel
theorem dX7_stages_144 : decode cX7_stages 144 = .ok (.aload_n 0, 1) := by decide +kernel
theorem dX7_stages_145 : decode cX7_stages 145 = .ok (.dup, 1) := by decide +kernel
theorem dX7_stages_146 : decode cX7_stages 146 = .ok (.getfield 76, 3) := by decide +kernel
theorem dX7_stages_149 : decode cX7_stages 149 = .ok (.iconst 1, 1) := by decide +kernel
theorem dX7_stages_150 : decode cX7_stages 150 = .ok (.iadd, 1) := by decide +kernel
theorem dX7_stages_151 : decode cX7_stages 151 = .ok (.putfield 76, 3) := by decide +kernel
theorem dX7_stages_154 : decode cX7_stages 154 = .ok (.aload_n 0, 1) := by decide +kernel
theorem dX7_stages_155 : decode cX7_stages 155 = .ok (.getfield 76, 3) := by decide +kernel
theorem dX7_stages_158 : decode cX7_stages 158 = .ok (.ireturn, 1) := by decide +kernel
theorem dX7_does_0 : decode cX7_does 0 = .ok (.aload_n 0, 1) := by decide +kernel
theorem dX7_does_1 : decode cX7_does 1 = .ok (.getfield 76, 3) := by decide +kernel
theorem dX7_does_4 : decode cX7_does 4 = .ok (.ifCond .ne 6, 3) := by decide +kernel
theorem dX7_does_7 : decode cX7_does 7 = .ok (.bipush (-2), 2) := by decide +kernel
theorem dX7_does_9 : decode cX7_does 9 = .ok (.ireturn, 1) := by decide +kernel
theorem dX7_does_10 : decode cX7_does 10 = .ok (.aload_n 0, 1) := by decide +kernel
theorem dX7_does_11 : decode cX7_does 11 = .ok (.getfield 7, 3) := by decide +kernel
theorem dX7_does_14 : decode cX7_does 14 = .ok (.iconst 0, 1) := by decide +kernel
theorem dX7_does_15 : decode cX7_does 15 = .ok (.iaload, 1) := by decide +kernel
theorem dX7_does_16 : decode cX7_does 16 = .ok (.istore_n 1, 1) := by decide +kernel
theorem dX7_does_17 : decode cX7_does 17 = .ok (.iconst 0, 1) := by decide +kernel
theorem dX7_does_18 : decode cX7_does 18 = .ok (.istore_n 2, 1) := by decide +kernel
theorem dX7_does_19 : decode cX7_does 19 = .ok (.iload_n 2, 1) := by decide +kernel
theorem dX7_does_20 : decode cX7_does 20 = .ok (.aload_n 0, 1) := by decide +kernel
theorem dX7_does_21 : decode cX7_does 21 = .ok (.getfield 76, 3) := by decide +kernel
theorem dX7_does_24 : decode cX7_does 24 = .ok (.if_icmp .ge 25, 3) := by decide +kernel
theorem dX7_does_27 : decode cX7_does 27 = .ok (.iload_n 1, 1) := by decide +kernel
theorem dX7_does_28 : decode cX7_does 28 = .ok (.aload_n 0, 1) := by decide +kernel
theorem dX7_does_29 : decode cX7_does 29 = .ok (.getfield 35, 3) := by decide +kernel
theorem dX7_does_32 : decode cX7_does 32 = .ok (.iload_n 2, 1) := by decide +kernel
theorem dX7_does_33 : decode cX7_does 33 = .ok (.iaload, 1) := by decide +kernel
theorem dX7_does_34 : decode cX7_does 34 = .ok (.aload_n 0, 1) := by decide +kernel
theorem dX7_does_35 : decode cX7_does 35 = .ok (.getfield 29, 3) := by decide +kernel
theorem dX7_does_38 : decode cX7_does 38 = .ok (.iload_n 2, 1) := by decide +kernel
theorem dX7_does_39 : decode cX7_does 39 = .ok (.iaload, 1) := by decide +kernel
theorem dX7_does_40 : decode cX7_does 40 = .ok (.isub, 1) := by decide +kernel
theorem dX7_does_41 : decode cX7_does 41 = .ok (.iadd, 1) := by decide +kernel
theorem dX7_does_42 : decode cX7_does 42 = .ok (.istore_n 1, 1) := by decide +kernel
theorem dX7_does_43 : decode cX7_does 43 = .ok (.iinc 2 1, 3) := by decide +kernel
theorem dX7_does_46 : decode cX7_does 46 = .ok (.goto (-27), 3) := by decide +kernel
theorem dX7_does_49 : decode cX7_does 49 = .ok (.iload_n 1, 1) := by decide +kernel
theorem dX7_does_50 : decode cX7_does 50 = .ok (.bipush 120, 2) := by decide +kernel
theorem dX7_does_52 : decode cX7_does 52 = .ok (.if_icmp .le 6, 3) := by decide +kernel
theorem dX7_does_55 : decode cX7_does 55 = .ok (.bipush (-3), 2) := by decide +kernel
theorem dX7_does_57 : decode cX7_does 57 = .ok (.ireturn, 1) := by decide +kernel
theorem dX7_does_58 : decode cX7_does 58 = .ok (.aload_n 0, 1) := by decide +kernel
theorem dX7_does_59 : decode cX7_does 59 = .ok (.invokevirtual 79, 3) := by decide +kernel
theorem dX7_does_62 : decode cX7_does 62 = .ok (.bipush 121, 2) := by decide +kernel
theorem dX7_does_64 : decode cX7_does 64 = .ok (.istore_n 2, 1) := by decide +kernel
theorem dX7_does_65 : decode cX7_does 65 = .ok (.iconst 0, 1) := by decide +kernel
theorem dX7_does_66 : decode cX7_does 66 = .ok (.istore_n 3, 1) := by decide +kernel
theorem dX7_does_67 : decode cX7_does 67 = .ok (.iload_n 3, 1) := by decide +kernel
theorem dX7_does_68 : decode cX7_does 68 = .ok (.aload_n 0, 1) := by decide +kernel
theorem dX7_does_69 : decode cX7_does 69 = .ok (.getfield 76, 3) := by decide +kernel
theorem dX7_does_72 : decode cX7_does 72 = .ok (.if_icmp .ge 114, 3) := by decide +kernel
theorem dX7_does_75 : decode cX7_does 75 = .ok (.iconst (-1), 1) := by decide +kernel
theorem dX7_does_76 : decode cX7_does 76 = .ok (.istore 4, 2) := by decide +kernel
theorem dX7_does_78 : decode cX7_does 78 = .ok (.iconst 0, 1) := by decide +kernel
theorem dX7_does_79 : decode cX7_does 79 = .ok (.istore 5, 2) := by decide +kernel
theorem dX7_does_81 : decode cX7_does 81 = .ok (.iload 5, 2) := by decide +kernel
theorem dX7_does_83 : decode cX7_does 83 = .ok (.aload_n 0, 1) := by decide +kernel
theorem dX7_does_84 : decode cX7_does 84 = .ok (.getfield 76, 3) := by decide +kernel
theorem dX7_does_87 : decode cX7_does 87 = .ok (.if_icmp .ge 51, 3) := by decide +kernel
theorem dX7_does_90 : decode cX7_does 90 = .ok (.aload_n 0, 1) := by decide +kernel
theorem dX7_does_91 : decode cX7_does 91 = .ok (.getfield 26, 3) := by decide +kernel
theorem dX7_does_94 : decode cX7_does 94 = .ok (.iload 5, 2) := by decide +kernel
theorem dX7_does_96 : decode cX7_does 96 = .ok (.iaload, 1) := by decide +kernel
theorem dX7_does_97 : decode cX7_does 97 = .ok (.iload_n 2, 1) := by decide +kernel
theorem dX7_does_98 : decode cX7_does 98 = .ok (.if_icmp .ge 30, 3) := by decide +kernel
theorem dX7_does_101 : decode cX7_does 101 = .ok (.iload 4, 2) := by decide +kernel
theorem dX7_does_103 : decode cX7_does 103 = .ok (.ifCond .lt 20, 3) := by decide +kernel
theorem dX7_does_106 : decode cX7_does 106 = .ok (.aload_n 0, 1) := by decide +kernel
theorem dX7_does_107 : decode cX7_does 107 = .ok (.getfield 26, 3) := by decide +kernel
theorem dX7_does_110 : decode cX7_does 110 = .ok (.iload 5, 2) := by decide +kernel
theorem dX7_does_112 : decode cX7_does 112 = .ok (.iaload, 1) := by decide +kernel
theorem dX7_does_113 : decode cX7_does 113 = .ok (.aload_n 0, 1) := by decide +kernel
theorem dX7_does_114 : decode cX7_does 114 = .ok (.getfield 26, 3) := by decide +kernel
theorem dX7_does_117 : decode cX7_does 117 = .ok (.iload 4, 2) := by decide +kernel
theorem dX7_does_119 : decode cX7_does 119 = .ok (.iaload, 1) := by decide +kernel
theorem dX7_does_120 : decode cX7_does 120 = .ok (.if_icmp .le 8, 3) := by decide +kernel
theorem dX7_does_123 : decode cX7_does 123 = .ok (.iload 5, 2) := by decide +kernel
theorem dX7_does_125 : decode cX7_does 125 = .ok (.goto 5, 3) := by decide +kernel
theorem dX7_does_128 : decode cX7_does 128 = .ok (.iload 4, 2) := by decide +kernel
theorem dX7_does_130 : decode cX7_does 130 = .ok (.istore 4, 2) := by decide +kernel
theorem dX7_does_132 : decode cX7_does 132 = .ok (.iinc 5 1, 3) := by decide +kernel
theorem dX7_does_135 : decode cX7_does 135 = .ok (.goto (-54), 3) := by decide +kernel
theorem dX7_does_138 : decode cX7_does 138 = .ok (.aload_n 0, 1) := by decide +kernel
theorem dX7_does_139 : decode cX7_does 139 = .ok (.aload_n 0, 1) := by decide +kernel
theorem dX7_does_140 : decode cX7_does 140 = .ok (.getfield 26, 3) := by decide +kernel
theorem dX7_does_143 : decode cX7_does 143 = .ok (.iload 4, 2) := by decide +kernel
theorem dX7_does_145 : decode cX7_does 145 = .ok (.iaload, 1) := by decide +kernel
theorem dX7_does_146 : decode cX7_does 146 = .ok (.aload_n 0, 1) := by decide +kernel
theorem dX7_does_147 : decode cX7_does 147 = .ok (.getfield 29, 3) := by decide +kernel
theorem dX7_does_150 : decode cX7_does 150 = .ok (.iload 4, 2) := by decide +kernel
theorem dX7_does_152 : decode cX7_does 152 = .ok (.iaload, 1) := by decide +kernel
theorem dX7_does_153 : decode cX7_does 153 = .ok (.aload_n 0, 1) := by decide +kernel
theorem dX7_does_154 : decode cX7_does 154 = .ok (.getfield 32, 3) := by decide +kernel
theorem dX7_does_157 : decode cX7_does 157 = .ok (.bipush 24, 2) := by decide +kernel
theorem dX7_does_159 : decode cX7_does 159 = .ok (.iload 4, 2) := by decide +kernel
theorem dX7_does_161 : decode cX7_does 161 = .ok (.imul, 1) := by decide +kernel
theorem dX7_does_162 : decode cX7_does 162 = .ok (.aload_n 0, 1) := by decide +kernel
theorem dX7_does_163 : decode cX7_does 163 = .ok (.getfield 35, 3) := by decide +kernel
theorem dX7_does_166 : decode cX7_does 166 = .ok (.iload 4, 2) := by decide +kernel
theorem dX7_does_168 : decode cX7_does 168 = .ok (.iaload, 1) := by decide +kernel
theorem dX7_does_169 : decode cX7_does 169 = .ok (.invokevirtual 82, 3) := by decide +kernel
theorem dX7_does_172 : decode cX7_does 172 = .ok (.aload_n 0, 1) := by decide +kernel
theorem dX7_does_173 : decode cX7_does 173 = .ok (.getfield 26, 3) := by decide +kernel
theorem dX7_does_176 : decode cX7_does 176 = .ok (.iload 4, 2) := by decide +kernel
theorem dX7_does_178 : decode cX7_does 178 = .ok (.iaload, 1) := by decide +kernel
theorem dX7_does_179 : decode cX7_does 179 = .ok (.istore_n 2, 1) := by decide +kernel
theorem dX7_does_180 : decode cX7_does 180 = .ok (.iinc 3 1, 3) := by decide +kernel
theorem dX7_does_183 : decode cX7_does 183 = .ok (.goto (-116), 3) := by decide +kernel
theorem dX7_does_186 : decode cX7_does 186 = .ok (.aload_n 0, 1) := by decide +kernel
theorem dX7_does_187 : decode cX7_does 187 = .ok (.iconst 0, 1) := by decide +kernel
theorem dX7_does_188 : decode cX7_does 188 = .ok (.putfield 76, 3) := by decide +kernel
theorem dX7_does_191 : decode cX7_does 191 = .ok (.aload_n 0, 1) := by decide +kernel
theorem dX7_does_192 : decode cX7_does 192 = .ok (.getfield 7, 3) := by decide +kernel
theorem dX7_does_195 : decode cX7_does 195 = .ok (.iconst 0, 1) := by decide +kernel
theorem dX7_does_196 : decode cX7_does 196 = .ok (.iaload, 1) := by decide +kernel
theorem dX7_does_197 : decode cX7_does 197 = .ok (.ireturn, 1) := by decide +kernel
theorem dX7_drops_0 : decode cX7_drops 0 = .ok (.aload_n 0, 1) := by decide +kernel
theorem dX7_drops_1 : decode cX7_drops 1 = .ok (.getfield 76, 3) := by decide +kernel
theorem dX7_drops_4 : decode cX7_drops 4 = .ok (.istore_n 1, 1) := by decide +kernel
theorem dX7_drops_5 : decode cX7_drops 5 = .ok (.aload_n 0, 1) := by decide +kernel
theorem dX7_drops_6 : decode cX7_drops 6 = .ok (.iconst 0, 1) := by decide +kernel
theorem dX7_drops_7 : decode cX7_drops 7 = .ok (.putfield 76, 3) := by decide +kernel
theorem dX7_drops_10 : decode cX7_drops 10 = .ok (.iload_n 1, 1) := by decide +kernel
theorem dX7_drops_11 : decode cX7_drops 11 = .ok (.ireturn, 1) := by decide +kernel
theorem dX7_undo_0 : decode cX7_undo 0 = .ok (.aload_n 0, 1) := by decide +kernel
theorem dX7_undo_1 : decode cX7_undo 1 = .ok (.getfield 61, 3) := by decide +kernel
theorem dX7_undo_4 : decode cX7_undo 4 = .ok (.ifCond .eq 10, 3) := by decide +kernel
theorem dX7_undo_7 : decode cX7_undo 7 = .ok (.aload_n 0, 1) := by decide +kernel
theorem dX7_undo_8 : decode cX7_undo 8 = .ok (.getfield 76, 3) := by decide +kernel
theorem dX7_undo_11 : decode cX7_undo 11 = .ok (.ifCond .le 6, 3) := by decide +kernel
theorem dX7_undo_14 : decode cX7_undo 14 = .ok (.bipush (-2), 2) := by decide +kernel
theorem dX7_undo_16 : decode cX7_undo 16 = .ok (.ireturn, 1) := by decide +kernel
theorem dX7_undo_17 : decode cX7_undo 17 = .ok (.aload_n 0, 1) := by decide +kernel
theorem dX7_undo_18 : decode cX7_undo 18 = .ok (.dup, 1) := by decide +kernel
theorem dX7_undo_19 : decode cX7_undo 19 = .ok (.getfield 61, 3) := by decide +kernel
theorem dX7_undo_22 : decode cX7_undo 22 = .ok (.iconst 1, 1) := by decide +kernel
theorem dX7_undo_23 : decode cX7_undo 23 = .ok (.isub, 1) := by decide +kernel
theorem dX7_undo_24 : decode cX7_undo 24 = .ok (.putfield 61, 3) := by decide +kernel
theorem dX7_undo_27 : decode cX7_undo 27 = .ok (.iconst 0, 1) := by decide +kernel
theorem dX7_undo_28 : decode cX7_undo 28 = .ok (.istore_n 1, 1) := by decide +kernel
theorem dX7_undo_29 : decode cX7_undo 29 = .ok (.iload_n 1, 1) := by decide +kernel
theorem dX7_undo_30 : decode cX7_undo 30 = .ok (.sipush 541, 3) := by decide +kernel
theorem dX7_undo_33 : decode cX7_undo 33 = .ok (.if_icmp .ge 30, 3) := by decide +kernel
theorem dX7_undo_36 : decode cX7_undo 36 = .ok (.aload_n 0, 1) := by decide +kernel
theorem dX7_undo_37 : decode cX7_undo 37 = .ok (.getfield 7, 3) := by decide +kernel
theorem dX7_undo_40 : decode cX7_undo 40 = .ok (.iload_n 1, 1) := by decide +kernel
theorem dX7_undo_41 : decode cX7_undo 41 = .ok (.aload_n 0, 1) := by decide +kernel
theorem dX7_undo_42 : decode cX7_undo 42 = .ok (.getfield 13, 3) := by decide +kernel
theorem dX7_undo_45 : decode cX7_undo 45 = .ok (.sipush 541, 3) := by decide +kernel
theorem dX7_undo_48 : decode cX7_undo 48 = .ok (.aload_n 0, 1) := by decide +kernel
theorem dX7_undo_49 : decode cX7_undo 49 = .ok (.getfield 61, 3) := by decide +kernel
theorem dX7_undo_52 : decode cX7_undo 52 = .ok (.imul, 1) := by decide +kernel
theorem dX7_undo_53 : decode cX7_undo 53 = .ok (.iload_n 1, 1) := by decide +kernel
theorem dX7_undo_54 : decode cX7_undo 54 = .ok (.iadd, 1) := by decide +kernel
theorem dX7_undo_55 : decode cX7_undo 55 = .ok (.iaload, 1) := by decide +kernel
theorem dX7_undo_56 : decode cX7_undo 56 = .ok (.iastore, 1) := by decide +kernel
theorem dX7_undo_57 : decode cX7_undo 57 = .ok (.iinc 1 1, 3) := by decide +kernel
theorem dX7_undo_60 : decode cX7_undo 60 = .ok (.goto (-31), 3) := by decide +kernel
theorem dX7_undo_63 : decode cX7_undo 63 = .ok (.aload_n 0, 1) := by decide +kernel
theorem dX7_undo_64 : decode cX7_undo 64 = .ok (.getfield 61, 3) := by decide +kernel
theorem dX7_undo_67 : decode cX7_undo 67 = .ok (.ireturn, 1) := by decide +kernel
theorem dX7_isLetter_0 : decode cX7_isLetter 0 = .ok (.iload_n 0, 1) := by decide +kernel
theorem dX7_isLetter_1 : decode cX7_isLetter 1 = .ok (.sipush 128, 3) := by decide +kernel
theorem dX7_isLetter_4 : decode cX7_isLetter 4 = .ok (.sipush 191, 3) := by decide +kernel
theorem dX7_isLetter_7 : decode cX7_isLetter 7 = .ok (.invokestatic 38, 3) := by decide +kernel
theorem dX7_isLetter_10 : decode cX7_isLetter 10 = .ok (.ifCond .ne 7, 3) := by decide +kernel
theorem dX7_isLetter_13 : decode cX7_isLetter 13 = .ok (.iconst 1, 1) := by decide +kernel
theorem dX7_isLetter_14 : decode cX7_isLetter 14 = .ok (.goto 4, 3) := by decide +kernel
theorem dX7_isLetter_17 : decode cX7_isLetter 17 = .ok (.iconst 0, 1) := by decide +kernel
theorem dX7_isLetter_18 : decode cX7_isLetter 18 = .ok (.ireturn, 1) := by decide +kernel
theorem dX7_has_0 : decode cX7_has 0 = .ok (.iload_n 1, 1) := by decide +kernel
theorem dX7_has_1 : decode cX7_has 1 = .ok (.ifCond .ne 7, 3) := by decide +kernel
theorem dX7_has_4 : decode cX7_has 4 = .ok (.iconst 1, 1) := by decide +kernel
theorem dX7_has_5 : decode cX7_has 5 = .ok (.goto 71, 3) := by decide +kernel
theorem dX7_has_8 : decode cX7_has 8 = .ok (.iload_n 1, 1) := by decide +kernel
theorem dX7_has_9 : decode cX7_has 9 = .ok (.iconst 1, 1) := by decide +kernel
theorem dX7_has_10 : decode cX7_has 10 = .ok (.if_icmp .ne 18, 3) := by decide +kernel
theorem dX7_has_13 : decode cX7_has 13 = .ok (.iload_n 0, 1) := by decide +kernel
theorem dX7_has_14 : decode cX7_has 14 = .ok (.invokestatic 86, 3) := by decide +kernel
theorem dX7_has_17 : decode cX7_has 17 = .ok (.ifCond .eq 7, 3) := by decide +kernel
theorem dX7_has_20 : decode cX7_has 20 = .ok (.iconst 1, 1) := by decide +kernel
theorem dX7_has_21 : decode cX7_has 21 = .ok (.goto 55, 3) := by decide +kernel
theorem dX7_has_24 : decode cX7_has 24 = .ok (.iconst 0, 1) := by decide +kernel
theorem dX7_has_25 : decode cX7_has 25 = .ok (.goto 51, 3) := by decide +kernel
theorem dX7_has_28 : decode cX7_has 28 = .ok (.iload_n 1, 1) := by decide +kernel
theorem dX7_has_29 : decode cX7_has 29 = .ok (.iconst 2, 1) := by decide +kernel
theorem dX7_has_30 : decode cX7_has 30 = .ok (.if_icmp .ne 17, 3) := by decide +kernel
theorem dX7_has_33 : decode cX7_has 33 = .ok (.iload_n 0, 1) := by decide +kernel
theorem dX7_has_34 : decode cX7_has 34 = .ok (.bipush 10, 2) := by decide +kernel
theorem dX7_has_36 : decode cX7_has 36 = .ok (.if_icmp .ne 7, 3) := by decide +kernel
theorem dX7_has_39 : decode cX7_has 39 = .ok (.iconst 1, 1) := by decide +kernel
theorem dX7_has_40 : decode cX7_has 40 = .ok (.goto 36, 3) := by decide +kernel
theorem dX7_has_43 : decode cX7_has 43 = .ok (.iconst 0, 1) := by decide +kernel
theorem dX7_has_44 : decode cX7_has 44 = .ok (.goto 32, 3) := by decide +kernel
theorem dX7_has_47 : decode cX7_has 47 = .ok (.iload_n 0, 1) := by decide +kernel
theorem dX7_has_48 : decode cX7_has 48 = .ok (.invokestatic 86, 3) := by decide +kernel
theorem dX7_has_51 : decode cX7_has 51 = .ok (.ifCond .eq 9, 3) := by decide +kernel
theorem dX7_has_54 : decode cX7_has 54 = .ok (.iload_n 0, 1) := by decide +kernel
theorem dX7_has_55 : decode cX7_has 55 = .ok (.bipush 32, 2) := by decide +kernel
theorem dX7_has_57 : decode cX7_has 57 = .ok (.if_icmp .ge 7, 3) := by decide +kernel
theorem dX7_has_60 : decode cX7_has 60 = .ok (.iconst 0, 1) := by decide +kernel
theorem dX7_has_61 : decode cX7_has 61 = .ok (.goto 15, 3) := by decide +kernel
theorem dX7_has_64 : decode cX7_has 64 = .ok (.iload_n 0, 1) := by decide +kernel
theorem dX7_has_65 : decode cX7_has 65 = .ok (.sipush 223, 3) := by decide +kernel
theorem dX7_has_68 : decode cX7_has 68 = .ok (.if_icmp .le 7, 3) := by decide +kernel
theorem dX7_has_71 : decode cX7_has 71 = .ok (.iconst 2, 1) := by decide +kernel
theorem dX7_has_72 : decode cX7_has 72 = .ok (.goto 4, 3) := by decide +kernel
theorem dX7_has_75 : decode cX7_has 75 = .ok (.iconst 1, 1) := by decide +kernel
theorem dX7_has_76 : decode cX7_has 76 = .ok (.ireturn, 1) := by decide +kernel
theorem dX7_measure_0 : decode cX7_measure 0 = .ok (.iconst 0, 1) := by decide +kernel
theorem dX7_measure_1 : decode cX7_measure 1 = .ok (.istore 4, 2) := by decide +kernel
theorem dX7_measure_3 : decode cX7_measure 3 = .ok (.iload_n 1, 1) := by decide +kernel
theorem dX7_measure_4 : decode cX7_measure 4 = .ok (.istore 5, 2) := by decide +kernel
theorem dX7_measure_6 : decode cX7_measure 6 = .ok (.iload 5, 2) := by decide +kernel
theorem dX7_measure_8 : decode cX7_measure 8 = .ok (.iload_n 2, 1) := by decide +kernel
theorem dX7_measure_9 : decode cX7_measure 9 = .ok (.if_icmp .ge 24, 3) := by decide +kernel
theorem dX7_measure_12 : decode cX7_measure 12 = .ok (.iload 4, 2) := by decide +kernel
theorem dX7_measure_14 : decode cX7_measure 14 = .ok (.aload_n 0, 1) := by decide +kernel
theorem dX7_measure_15 : decode cX7_measure 15 = .ok (.iload 5, 2) := by decide +kernel
theorem dX7_measure_17 : decode cX7_measure 17 = .ok (.invokevirtual 89, 3) := by decide +kernel
theorem dX7_measure_20 : decode cX7_measure 20 = .ok (.iload_n 3, 1) := by decide +kernel
theorem dX7_measure_21 : decode cX7_measure 21 = .ok (.invokestatic 92, 3) := by decide +kernel
theorem dX7_measure_24 : decode cX7_measure 24 = .ok (.iadd, 1) := by decide +kernel
theorem dX7_measure_25 : decode cX7_measure 25 = .ok (.istore 4, 2) := by decide +kernel
theorem dX7_measure_27 : decode cX7_measure 27 = .ok (.iinc 5 1, 3) := by decide +kernel
theorem dX7_measure_30 : decode cX7_measure 30 = .ok (.goto (-24), 3) := by decide +kernel
theorem dX7_measure_33 : decode cX7_measure 33 = .ok (.iload 4, 2) := by decide +kernel
theorem dX7_measure_35 : decode cX7_measure 35 = .ok (.ireturn, 1) := by decide +kernel
theorem dX7_at_0 : decode cX7_at 0 = .ok (.iload_n 1, 1) := by decide +kernel
theorem dX7_at_1 : decode cX7_at 1 = .ok (.iconst 0, 1) := by decide +kernel
theorem dX7_at_2 : decode cX7_at 2 = .ok (.aload_n 0, 1) := by decide +kernel
theorem dX7_at_3 : decode cX7_at 3 = .ok (.getfield 7, 3) := by decide +kernel
theorem dX7_at_6 : decode cX7_at 6 = .ok (.iconst 0, 1) := by decide +kernel
theorem dX7_at_7 : decode cX7_at 7 = .ok (.iaload, 1) := by decide +kernel
theorem dX7_at_8 : decode cX7_at 8 = .ok (.iconst 1, 1) := by decide +kernel
theorem dX7_at_9 : decode cX7_at 9 = .ok (.isub, 1) := by decide +kernel
theorem dX7_at_10 : decode cX7_at 10 = .ok (.invokestatic 38, 3) := by decide +kernel
theorem dX7_at_13 : decode cX7_at 13 = .ok (.ifCond .eq 11, 3) := by decide +kernel
theorem dX7_at_16 : decode cX7_at 16 = .ok (.aload_n 0, 1) := by decide +kernel
theorem dX7_at_17 : decode cX7_at 17 = .ok (.iload_n 1, 1) := by decide +kernel
theorem dX7_at_18 : decode cX7_at 18 = .ok (.invokevirtual 89, 3) := by decide +kernel
theorem dX7_at_21 : decode cX7_at 21 = .ok (.goto 4, 3) := by decide +kernel
theorem dX7_at_24 : decode cX7_at 24 = .ok (.iconst (-1), 1) := by decide +kernel
theorem dX7_at_25 : decode cX7_at 25 = .ok (.ireturn, 1) := by decide +kernel
theorem dX7_lineAt_0 : decode cX7_lineAt 0 = .ok (.iconst 0, 1) := by decide +kernel
theorem dX7_lineAt_1 : decode cX7_lineAt 1 = .ok (.istore_n 2, 1) := by decide +kernel
theorem dX7_lineAt_2 : decode cX7_lineAt 2 = .ok (.iconst 0, 1) := by decide +kernel
theorem dX7_lineAt_3 : decode cX7_lineAt 3 = .ok (.istore_n 3, 1) := by decide +kernel
theorem dX7_lineAt_4 : decode cX7_lineAt 4 = .ok (.iload_n 2, 1) := by decide +kernel
theorem dX7_lineAt_5 : decode cX7_lineAt 5 = .ok (.iload_n 1, 1) := by decide +kernel
theorem dX7_lineAt_6 : decode cX7_lineAt 6 = .ok (.if_icmp .ge 31, 3) := by decide +kernel
theorem dX7_lineAt_9 : decode cX7_lineAt 9 = .ok (.iload_n 3, 1) := by decide +kernel
theorem dX7_lineAt_10 : decode cX7_lineAt 10 = .ok (.aload_n 0, 1) := by decide +kernel
theorem dX7_lineAt_11 : decode cX7_lineAt 11 = .ok (.getfield 7, 3) := by decide +kernel
theorem dX7_lineAt_14 : decode cX7_lineAt 14 = .ok (.iconst 0, 1) := by decide +kernel
theorem dX7_lineAt_15 : decode cX7_lineAt 15 = .ok (.iaload, 1) := by decide +kernel
theorem dX7_lineAt_16 : decode cX7_lineAt 16 = .ok (.if_icmp .ge 21, 3) := by decide +kernel
theorem dX7_lineAt_19 : decode cX7_lineAt 19 = .ok (.iload_n 2, 1) := by decide +kernel
theorem dX7_lineAt_20 : decode cX7_lineAt 20 = .ok (.aload_n 0, 1) := by decide +kernel
theorem dX7_lineAt_21 : decode cX7_lineAt 21 = .ok (.iload_n 3, 1) := by decide +kernel
theorem dX7_lineAt_22 : decode cX7_lineAt 22 = .ok (.invokevirtual 89, 3) := by decide +kernel
theorem dX7_lineAt_25 : decode cX7_lineAt 25 = .ok (.iconst 2, 1) := by decide +kernel
theorem dX7_lineAt_26 : decode cX7_lineAt 26 = .ok (.invokestatic 92, 3) := by decide +kernel
theorem dX7_lineAt_29 : decode cX7_lineAt 29 = .ok (.iadd, 1) := by decide +kernel
theorem dX7_lineAt_30 : decode cX7_lineAt 30 = .ok (.istore_n 2, 1) := by decide +kernel
theorem dX7_lineAt_31 : decode cX7_lineAt 31 = .ok (.iinc 3 1, 3) := by decide +kernel
theorem dX7_lineAt_34 : decode cX7_lineAt 34 = .ok (.goto (-30), 3) := by decide +kernel
theorem dX7_lineAt_37 : decode cX7_lineAt 37 = .ok (.iload_n 2, 1) := by decide +kernel
theorem dX7_lineAt_38 : decode cX7_lineAt 38 = .ok (.iload_n 1, 1) := by decide +kernel
theorem dX7_lineAt_39 : decode cX7_lineAt 39 = .ok (.if_icmp .ge 14, 3) := by decide +kernel
theorem dX7_lineAt_42 : decode cX7_lineAt 42 = .ok (.aload_n 0, 1) := by decide +kernel
theorem dX7_lineAt_43 : decode cX7_lineAt 43 = .ok (.getfield 7, 3) := by decide +kernel
theorem dX7_lineAt_46 : decode cX7_lineAt 46 = .ok (.iconst 0, 1) := by decide +kernel
theorem dX7_lineAt_47 : decode cX7_lineAt 47 = .ok (.iaload, 1) := by decide +kernel
theorem dX7_lineAt_48 : decode cX7_lineAt 48 = .ok (.iconst 1, 1) := by decide +kernel
theorem dX7_lineAt_49 : decode cX7_lineAt 49 = .ok (.iadd, 1) := by decide +kernel
theorem dX7_lineAt_50 : decode cX7_lineAt 50 = .ok (.goto 4, 3) := by decide +kernel
theorem dX7_lineAt_53 : decode cX7_lineAt 53 = .ok (.iload_n 3, 1) := by decide +kernel
theorem dX7_lineAt_54 : decode cX7_lineAt 54 = .ok (.ireturn, 1) := by decide +kernel
theorem dX7_beyond_0 : decode cX7_beyond 0 = .ok (.iconst 0, 1) := by decide +kernel
theorem dX7_beyond_1 : decode cX7_beyond 1 = .ok (.istore 5, 2) := by decide +kernel
theorem dX7_beyond_3 : decode cX7_beyond 3 = .ok (.iload_n 1, 1) := by decide +kernel
theorem dX7_beyond_4 : decode cX7_beyond 4 = .ok (.istore 6, 2) := by decide +kernel
theorem dX7_beyond_6 : decode cX7_beyond 6 = .ok (.iload 6, 2) := by decide +kernel
theorem dX7_beyond_8 : decode cX7_beyond 8 = .ok (.iload_n 2, 1) := by decide +kernel
theorem dX7_beyond_9 : decode cX7_beyond 9 = .ok (.if_icmp .ge 34, 3) := by decide +kernel
theorem dX7_beyond_12 : decode cX7_beyond 12 = .ok (.iload 5, 2) := by decide +kernel
theorem dX7_beyond_14 : decode cX7_beyond 14 = .ok (.aload_n 0, 1) := by decide +kernel
theorem dX7_beyond_15 : decode cX7_beyond 15 = .ok (.iload 6, 2) := by decide +kernel
theorem dX7_beyond_17 : decode cX7_beyond 17 = .ok (.invokevirtual 89, 3) := by decide +kernel
theorem dX7_beyond_20 : decode cX7_beyond 20 = .ok (.iload_n 3, 1) := by decide +kernel
theorem dX7_beyond_21 : decode cX7_beyond 21 = .ok (.invokestatic 92, 3) := by decide +kernel
theorem dX7_beyond_24 : decode cX7_beyond 24 = .ok (.iadd, 1) := by decide +kernel
theorem dX7_beyond_25 : decode cX7_beyond 25 = .ok (.istore 5, 2) := by decide +kernel
theorem dX7_beyond_27 : decode cX7_beyond 27 = .ok (.iload 5, 2) := by decide +kernel
theorem dX7_beyond_29 : decode cX7_beyond 29 = .ok (.iload 4, 2) := by decide +kernel
theorem dX7_beyond_31 : decode cX7_beyond 31 = .ok (.if_icmp .le 6, 3) := by decide +kernel
theorem dX7_beyond_34 : decode cX7_beyond 34 = .ok (.iload 6, 2) := by decide +kernel
theorem dX7_beyond_36 : decode cX7_beyond 36 = .ok (.ireturn, 1) := by decide +kernel
theorem dX7_beyond_37 : decode cX7_beyond 37 = .ok (.iinc 6 1, 3) := by decide +kernel
theorem dX7_beyond_40 : decode cX7_beyond 40 = .ok (.goto (-34), 3) := by decide +kernel
theorem dX7_beyond_43 : decode cX7_beyond 43 = .ok (.iload_n 2, 1) := by decide +kernel
theorem dX7_beyond_44 : decode cX7_beyond 44 = .ok (.ireturn, 1) := by decide +kernel
theorem dX7_tells_0 : decode cX7_tells 0 = .ok (.iload_n 1, 1) := by decide +kernel
theorem dX7_tells_1 : decode cX7_tells 1 = .ok (.iconst 0, 1) := by decide +kernel
theorem dX7_tells_2 : decode cX7_tells 2 = .ok (.iconst 3, 1) := by decide +kernel
theorem dX7_tells_3 : decode cX7_tells 3 = .ok (.invokestatic 38, 3) := by decide +kernel
theorem dX7_tells_6 : decode cX7_tells 6 = .ok (.ifCond .eq 32, 3) := by decide +kernel
theorem dX7_tells_9 : decode cX7_tells 9 = .ok (.iload_n 3, 1) := by decide +kernel
theorem dX7_tells_10 : decode cX7_tells 10 = .ok (.iconst 0, 1) := by decide +kernel
theorem dX7_tells_11 : decode cX7_tells 11 = .ok (.iconst 3, 1) := by decide +kernel
theorem dX7_tells_12 : decode cX7_tells 12 = .ok (.invokestatic 38, 3) := by decide +kernel
theorem dX7_tells_15 : decode cX7_tells 15 = .ok (.ifCond .eq 23, 3) := by decide +kernel
theorem dX7_tells_18 : decode cX7_tells 18 = .ok (.iload_n 2, 1) := by decide +kernel
theorem dX7_tells_19 : decode cX7_tells 19 = .ok (.iconst 0, 1) := by decide +kernel
theorem dX7_tells_20 : decode cX7_tells 20 = .ok (.aload_n 0, 1) := by decide +kernel
theorem dX7_tells_21 : decode cX7_tells 21 = .ok (.iconst 0, 1) := by decide +kernel
theorem dX7_tells_22 : decode cX7_tells 22 = .ok (.aload_n 0, 1) := by decide +kernel
theorem dX7_tells_23 : decode cX7_tells 23 = .ok (.getfield 7, 3) := by decide +kernel
theorem dX7_tells_26 : decode cX7_tells 26 = .ok (.iconst 0, 1) := by decide +kernel
theorem dX7_tells_27 : decode cX7_tells 27 = .ok (.iaload, 1) := by decide +kernel
theorem dX7_tells_28 : decode cX7_tells 28 = .ok (.iload_n 1, 1) := by decide +kernel
theorem dX7_tells_29 : decode cX7_tells 29 = .ok (.invokevirtual 96, 3) := by decide +kernel
theorem dX7_tells_32 : decode cX7_tells 32 = .ok (.invokestatic 38, 3) := by decide +kernel
theorem dX7_tells_35 : decode cX7_tells 35 = .ok (.ifCond .ne 5, 3) := by decide +kernel
theorem dX7_tells_38 : decode cX7_tells 38 = .ok (.iconst (-1), 1) := by decide +kernel
theorem dX7_tells_39 : decode cX7_tells 39 = .ok (.ireturn, 1) := by decide +kernel
theorem dX7_tells_40 : decode cX7_tells 40 = .ok (.iload_n 1, 1) := by decide +kernel
theorem dX7_tells_41 : decode cX7_tells 41 = .ok (.ifCond .ne 7, 3) := by decide +kernel
theorem dX7_tells_44 : decode cX7_tells 44 = .ok (.iload_n 2, 1) := by decide +kernel
theorem dX7_tells_45 : decode cX7_tells 45 = .ok (.goto 29, 3) := by decide +kernel
theorem dX7_tells_48 : decode cX7_tells 48 = .ok (.iload_n 1, 1) := by decide +kernel
theorem dX7_tells_49 : decode cX7_tells 49 = .ok (.iconst 2, 1) := by decide +kernel
theorem dX7_tells_50 : decode cX7_tells 50 = .ok (.if_icmp .ne 11, 3) := by decide +kernel
theorem dX7_tells_53 : decode cX7_tells 53 = .ok (.aload_n 0, 1) := by decide +kernel
theorem dX7_tells_54 : decode cX7_tells 54 = .ok (.iload_n 2, 1) := by decide +kernel
theorem dX7_tells_55 : decode cX7_tells 55 = .ok (.invokevirtual 99, 3) := by decide +kernel
theorem dX7_tells_58 : decode cX7_tells 58 = .ok (.goto 16, 3) := by decide +kernel
theorem dX7_tells_61 : decode cX7_tells 61 = .ok (.aload_n 0, 1) := by decide +kernel
theorem dX7_tells_62 : decode cX7_tells 62 = .ok (.iconst 0, 1) := by decide +kernel
theorem dX7_tells_63 : decode cX7_tells 63 = .ok (.aload_n 0, 1) := by decide +kernel
theorem dX7_tells_64 : decode cX7_tells 64 = .ok (.getfield 7, 3) := by decide +kernel
theorem dX7_tells_67 : decode cX7_tells 67 = .ok (.iconst 0, 1) := by decide +kernel
theorem dX7_tells_68 : decode cX7_tells 68 = .ok (.iaload, 1) := by decide +kernel
theorem dX7_tells_69 : decode cX7_tells 69 = .ok (.iload_n 1, 1) := by decide +kernel
theorem dX7_tells_70 : decode cX7_tells 70 = .ok (.iload_n 2, 1) := by decide +kernel
theorem dX7_tells_71 : decode cX7_tells 71 = .ok (.invokevirtual 102, 3) := by decide +kernel
theorem dX7_tells_74 : decode cX7_tells 74 = .ok (.istore 4, 2) := by decide +kernel
theorem dX7_tells_76 : decode cX7_tells 76 = .ok (.aload_n 0, 1) := by decide +kernel
theorem dX7_tells_77 : decode cX7_tells 77 = .ok (.iconst 0, 1) := by decide +kernel
theorem dX7_tells_78 : decode cX7_tells 78 = .ok (.iload 4, 2) := by decide +kernel
theorem dX7_tells_80 : decode cX7_tells 80 = .ok (.iload_n 3, 1) := by decide +kernel
theorem dX7_tells_81 : decode cX7_tells 81 = .ok (.invokevirtual 96, 3) := by decide +kernel
theorem dX7_tells_84 : decode cX7_tells 84 = .ok (.ireturn, 1) := by decide +kernel
theorem dX7_spot_0 : decode cX7_spot 0 = .ok (.aload_n 0, 1) := by decide +kernel
theorem dX7_spot_1 : decode cX7_spot 1 = .ok (.iload_n 1, 1) := by decide +kernel
theorem dX7_spot_2 : decode cX7_spot 2 = .ok (.invokevirtual 68, 3) := by decide +kernel
theorem dX7_spot_5 : decode cX7_spot 5 = .ok (.ifCond .eq 12, 3) := by decide +kernel
theorem dX7_spot_8 : decode cX7_spot 8 = .ok (.iload_n 2, 1) := by decide +kernel
theorem dX7_spot_9 : decode cX7_spot 9 = .ok (.iconst 0, 1) := by decide +kernel
theorem dX7_spot_10 : decode cX7_spot 10 = .ok (.iconst 3, 1) := by decide +kernel
theorem dX7_spot_11 : decode cX7_spot 11 = .ok (.invokestatic 38, 3) := by decide +kernel
theorem dX7_spot_14 : decode cX7_spot 14 = .ok (.ifCond .ne 5, 3) := by decide +kernel
theorem dX7_spot_17 : decode cX7_spot 17 = .ok (.iconst (-1), 1) := by decide +kernel
theorem dX7_spot_18 : decode cX7_spot 18 = .ok (.ireturn, 1) := by decide +kernel
theorem dX7_spot_19 : decode cX7_spot 19 = .ok (.aload_n 0, 1) := by decide +kernel
theorem dX7_spot_20 : decode cX7_spot 20 = .ok (.iconst 0, 1) := by decide +kernel
theorem dX7_spot_21 : decode cX7_spot 21 = .ok (.iload_n 1, 1) := by decide +kernel
theorem dX7_spot_22 : decode cX7_spot 22 = .ok (.iconst 2, 1) := by decide +kernel
theorem dX7_spot_23 : decode cX7_spot 23 = .ok (.invokevirtual 96, 3) := by decide +kernel
theorem dX7_spot_26 : decode cX7_spot 26 = .ok (.istore_n 3, 1) := by decide +kernel
theorem dX7_spot_27 : decode cX7_spot 27 = .ok (.iload_n 2, 1) := by decide +kernel
theorem dX7_spot_28 : decode cX7_spot 28 = .ok (.ifCond .ne 7, 3) := by decide +kernel
theorem dX7_spot_31 : decode cX7_spot 31 = .ok (.iload_n 3, 1) := by decide +kernel
theorem dX7_spot_32 : decode cX7_spot 32 = .ok (.goto 36, 3) := by decide +kernel
theorem dX7_spot_35 : decode cX7_spot 35 = .ok (.aload_n 0, 1) := by decide +kernel
theorem dX7_spot_36 : decode cX7_spot 36 = .ok (.aload_n 0, 1) := by decide +kernel
theorem dX7_spot_37 : decode cX7_spot 37 = .ok (.iload_n 3, 1) := by decide +kernel
theorem dX7_spot_38 : decode cX7_spot 38 = .ok (.invokevirtual 99, 3) := by decide +kernel
theorem dX7_spot_41 : decode cX7_spot 41 = .ok (.iload_n 1, 1) := by decide +kernel
theorem dX7_spot_42 : decode cX7_spot 42 = .ok (.iload_n 2, 1) := by decide +kernel
theorem dX7_spot_43 : decode cX7_spot 43 = .ok (.iconst 1, 1) := by decide +kernel
theorem dX7_spot_44 : decode cX7_spot 44 = .ok (.if_icmp .ne 7, 3) := by decide +kernel
theorem dX7_spot_47 : decode cX7_spot 47 = .ok (.iconst 0, 1) := by decide +kernel
theorem dX7_spot_48 : decode cX7_spot 48 = .ok (.goto 17, 3) := by decide +kernel
theorem dX7_spot_51 : decode cX7_spot 51 = .ok (.iload_n 2, 1) := by decide +kernel
theorem dX7_spot_52 : decode cX7_spot 52 = .ok (.iconst 1, 1) := by decide +kernel
theorem dX7_spot_53 : decode cX7_spot 53 = .ok (.isub, 1) := by decide +kernel
theorem dX7_spot_54 : decode cX7_spot 54 = .ok (.iload_n 2, 1) := by decide +kernel
theorem dX7_spot_55 : decode cX7_spot 55 = .ok (.iconst 3, 1) := by decide +kernel
theorem dX7_spot_56 : decode cX7_spot 56 = .ok (.if_icmp .ne 7, 3) := by decide +kernel
theorem dX7_spot_59 : decode cX7_spot 59 = .ok (.iconst 1, 1) := by decide +kernel
theorem dX7_spot_60 : decode cX7_spot 60 = .ok (.goto 4, 3) := by decide +kernel
theorem dX7_spot_63 : decode cX7_spot 63 = .ok (.iconst 0, 1) := by decide +kernel
theorem dX7_spot_64 : decode cX7_spot 64 = .ok (.iadd, 1) := by decide +kernel
theorem dX7_spot_65 : decode cX7_spot 65 = .ok (.invokevirtual 96, 3) := by decide +kernel
theorem dX7_spot_68 : decode cX7_spot 68 = .ok (.ireturn, 1) := by decide +kernel
theorem dX7_lines_0 : decode cX7_lines 0 = .ok (.aload_n 0, 1) := by decide +kernel
theorem dX7_lines_1 : decode cX7_lines 1 = .ok (.iconst 0, 1) := by decide +kernel
theorem dX7_lines_2 : decode cX7_lines 2 = .ok (.aload_n 0, 1) := by decide +kernel
theorem dX7_lines_3 : decode cX7_lines 3 = .ok (.getfield 7, 3) := by decide +kernel
theorem dX7_lines_6 : decode cX7_lines 6 = .ok (.iconst 0, 1) := by decide +kernel
theorem dX7_lines_7 : decode cX7_lines 7 = .ok (.iaload, 1) := by decide +kernel
theorem dX7_lines_8 : decode cX7_lines 8 = .ok (.iconst 2, 1) := by decide +kernel
theorem dX7_lines_9 : decode cX7_lines 9 = .ok (.invokevirtual 96, 3) := by decide +kernel
theorem dX7_lines_12 : decode cX7_lines 12 = .ok (.iconst 1, 1) := by decide +kernel
theorem dX7_lines_13 : decode cX7_lines 13 = .ok (.iadd, 1) := by decide +kernel
theorem dX7_lines_14 : decode cX7_lines 14 = .ok (.ireturn, 1) := by decide +kernel
theorem dX7_isLine_0 : decode cX7_isLine 0 = .ok (.iload_n 1, 1) := by decide +kernel
theorem dX7_isLine_1 : decode cX7_isLine 1 = .ok (.iconst 0, 1) := by decide +kernel
theorem dX7_isLine_2 : decode cX7_isLine 2 = .ok (.aload_n 0, 1) := by decide +kernel
theorem dX7_isLine_3 : decode cX7_isLine 3 = .ok (.invokevirtual 106, 3) := by decide +kernel
theorem dX7_isLine_6 : decode cX7_isLine 6 = .ok (.iconst 1, 1) := by decide +kernel
theorem dX7_isLine_7 : decode cX7_isLine 7 = .ok (.isub, 1) := by decide +kernel
theorem dX7_isLine_8 : decode cX7_isLine 8 = .ok (.invokestatic 38, 3) := by decide +kernel
theorem dX7_isLine_11 : decode cX7_isLine 11 = .ok (.ireturn, 1) := by decide +kernel
theorem dX7_endOf_0 : decode cX7_endOf 0 = .ok (.aload_n 0, 1) := by decide +kernel
theorem dX7_endOf_1 : decode cX7_endOf 1 = .ok (.iload_n 1, 1) := by decide +kernel
theorem dX7_endOf_2 : decode cX7_endOf 2 = .ok (.iconst 1, 1) := by decide +kernel
theorem dX7_endOf_3 : decode cX7_endOf 3 = .ok (.iadd, 1) := by decide +kernel
theorem dX7_endOf_4 : decode cX7_endOf 4 = .ok (.invokevirtual 99, 3) := by decide +kernel
theorem dX7_endOf_7 : decode cX7_endOf 7 = .ok (.iconst 1, 1) := by decide +kernel
theorem dX7_endOf_8 : decode cX7_endOf 8 = .ok (.isub, 1) := by decide +kernel
theorem dX7_endOf_9 : decode cX7_endOf 9 = .ok (.ireturn, 1) := by decide +kernel
theorem dX7_column_0 : decode cX7_column 0 = .ok (.aload_n 0, 1) := by decide +kernel
theorem dX7_column_1 : decode cX7_column 1 = .ok (.iload_n 1, 1) := by decide +kernel
theorem dX7_column_2 : decode cX7_column 2 = .ok (.invokevirtual 110, 3) := by decide +kernel
theorem dX7_column_5 : decode cX7_column 5 = .ok (.ifCond .eq 26, 3) := by decide +kernel
theorem dX7_column_8 : decode cX7_column 8 = .ok (.iload_n 2, 1) := by decide +kernel
theorem dX7_column_9 : decode cX7_column 9 = .ok (.ifCond .lt 22, 3) := by decide +kernel
theorem dX7_column_12 : decode cX7_column 12 = .ok (.aload_n 0, 1) := by decide +kernel
theorem dX7_column_13 : decode cX7_column 13 = .ok (.aload_n 0, 1) := by decide +kernel
theorem dX7_column_14 : decode cX7_column 14 = .ok (.iload_n 1, 1) := by decide +kernel
theorem dX7_column_15 : decode cX7_column 15 = .ok (.invokevirtual 99, 3) := by decide +kernel
theorem dX7_column_18 : decode cX7_column 18 = .ok (.aload_n 0, 1) := by decide +kernel
theorem dX7_column_19 : decode cX7_column 19 = .ok (.iload_n 1, 1) := by decide +kernel
theorem dX7_column_20 : decode cX7_column 20 = .ok (.invokevirtual 113, 3) := by decide +kernel
theorem dX7_column_23 : decode cX7_column 23 = .ok (.iconst 3, 1) := by decide +kernel
theorem dX7_column_24 : decode cX7_column 24 = .ok (.iload_n 2, 1) := by decide +kernel
theorem dX7_column_25 : decode cX7_column 25 = .ok (.invokevirtual 102, 3) := by decide +kernel
theorem dX7_column_28 : decode cX7_column 28 = .ok (.goto 4, 3) := by decide +kernel
theorem dX7_column_31 : decode cX7_column 31 = .ok (.iconst (-1), 1) := by decide +kernel
theorem dX7_column_32 : decode cX7_column 32 = .ok (.ireturn, 1) := by decide +kernel
theorem dX7_line_0 : decode cX7_line 0 = .ok (.aload_n 0, 1) := by decide +kernel
theorem dX7_line_1 : decode cX7_line 1 = .ok (.iload_n 1, 1) := by decide +kernel
theorem dX7_line_2 : decode cX7_line 2 = .ok (.invokevirtual 110, 3) := by decide +kernel
theorem dX7_line_5 : decode cX7_line 5 = .ok (.ifCond .eq 12, 3) := by decide +kernel
theorem dX7_line_8 : decode cX7_line 8 = .ok (.iload_n 2, 1) := by decide +kernel
theorem dX7_line_9 : decode cX7_line 9 = .ok (.iconst 0, 1) := by decide +kernel
theorem dX7_line_10 : decode cX7_line 10 = .ok (.iconst 3, 1) := by decide +kernel
theorem dX7_line_11 : decode cX7_line 11 = .ok (.invokestatic 38, 3) := by decide +kernel
theorem dX7_line_14 : decode cX7_line 14 = .ok (.ifCond .ne 5, 3) := by decide +kernel
theorem dX7_line_17 : decode cX7_line 17 = .ok (.iconst (-1), 1) := by decide +kernel
theorem dX7_line_18 : decode cX7_line 18 = .ok (.ireturn, 1) := by decide +kernel
theorem dX7_line_19 : decode cX7_line 19 = .ok (.aload_n 0, 1) := by decide +kernel
theorem dX7_line_20 : decode cX7_line 20 = .ok (.iload_n 1, 1) := by decide +kernel
theorem dX7_line_21 : decode cX7_line 21 = .ok (.invokevirtual 99, 3) := by decide +kernel
theorem dX7_line_24 : decode cX7_line 24 = .ok (.istore_n 3, 1) := by decide +kernel
theorem dX7_line_25 : decode cX7_line 25 = .ok (.iload_n 2, 1) := by decide +kernel
theorem dX7_line_26 : decode cX7_line 26 = .ok (.ifCond .ne 7, 3) := by decide +kernel
theorem dX7_line_29 : decode cX7_line 29 = .ok (.iload_n 3, 1) := by decide +kernel
theorem dX7_line_30 : decode cX7_line 30 = .ok (.goto 32, 3) := by decide +kernel
theorem dX7_line_33 : decode cX7_line 33 = .ok (.aload_n 0, 1) := by decide +kernel
theorem dX7_line_34 : decode cX7_line 34 = .ok (.iload_n 3, 1) := by decide +kernel
theorem dX7_line_35 : decode cX7_line 35 = .ok (.aload_n 0, 1) := by decide +kernel
theorem dX7_line_36 : decode cX7_line 36 = .ok (.iload_n 1, 1) := by decide +kernel
theorem dX7_line_37 : decode cX7_line 37 = .ok (.invokevirtual 113, 3) := by decide +kernel
theorem dX7_line_40 : decode cX7_line 40 = .ok (.iload_n 2, 1) := by decide +kernel
theorem dX7_line_41 : decode cX7_line 41 = .ok (.iconst 1, 1) := by decide +kernel
theorem dX7_line_42 : decode cX7_line 42 = .ok (.if_icmp .ne 7, 3) := by decide +kernel
theorem dX7_line_45 : decode cX7_line 45 = .ok (.iconst 0, 1) := by decide +kernel
theorem dX7_line_46 : decode cX7_line 46 = .ok (.goto 13, 3) := by decide +kernel
theorem dX7_line_49 : decode cX7_line 49 = .ok (.iload_n 2, 1) := by decide +kernel
theorem dX7_line_50 : decode cX7_line 50 = .ok (.iconst 2, 1) := by decide +kernel
theorem dX7_line_51 : decode cX7_line 51 = .ok (.if_icmp .ne 7, 3) := by decide +kernel
theorem dX7_line_54 : decode cX7_line 54 = .ok (.iconst 1, 1) := by decide +kernel
theorem dX7_line_55 : decode cX7_line 55 = .ok (.goto 4, 3) := by decide +kernel
theorem dX7_line_58 : decode cX7_line 58 = .ok (.iconst 3, 1) := by decide +kernel
theorem dX7_line_59 : decode cX7_line 59 = .ok (.invokevirtual 96, 3) := by decide +kernel
theorem dX7_line_62 : decode cX7_line 62 = .ok (.ireturn, 1) := by decide +kernel
theorem dX7_cellsOf_0 : decode cX7_cellsOf 0 = .ok (.aload_n 0, 1) := by decide +kernel
theorem dX7_cellsOf_1 : decode cX7_cellsOf 1 = .ok (.aload_n 0, 1) := by decide +kernel
theorem dX7_cellsOf_2 : decode cX7_cellsOf 2 = .ok (.iload_n 1, 1) := by decide +kernel
theorem dX7_cellsOf_3 : decode cX7_cellsOf 3 = .ok (.invokevirtual 99, 3) := by decide +kernel
theorem dX7_cellsOf_6 : decode cX7_cellsOf 6 = .ok (.aload_n 0, 1) := by decide +kernel
theorem dX7_cellsOf_7 : decode cX7_cellsOf 7 = .ok (.iload_n 1, 1) := by decide +kernel
theorem dX7_cellsOf_8 : decode cX7_cellsOf 8 = .ok (.invokevirtual 113, 3) := by decide +kernel
theorem dX7_cellsOf_11 : decode cX7_cellsOf 11 = .ok (.iconst 3, 1) := by decide +kernel
theorem dX7_cellsOf_12 : decode cX7_cellsOf 12 = .ok (.invokevirtual 96, 3) := by decide +kernel
theorem dX7_cellsOf_15 : decode cX7_cellsOf 15 = .ok (.ireturn, 1) := by decide +kernel
theorem dX7_wide_0 : decode cX7_wide 0 = .ok (.aload_n 0, 1) := by decide +kernel
theorem dX7_wide_1 : decode cX7_wide 1 = .ok (.invokevirtual 106, 3) := by decide +kernel
theorem dX7_wide_4 : decode cX7_wide 4 = .ok (.istore_n 2, 1) := by decide +kernel
theorem dX7_wide_5 : decode cX7_wide 5 = .ok (.iload_n 1, 1) := by decide +kernel
theorem dX7_wide_6 : decode cX7_wide 6 = .ok (.iconst 0, 1) := by decide +kernel
theorem dX7_wide_7 : decode cX7_wide 7 = .ok (.iload_n 2, 1) := by decide +kernel
theorem dX7_wide_8 : decode cX7_wide 8 = .ok (.iconst 1, 1) := by decide +kernel
theorem dX7_wide_9 : decode cX7_wide 9 = .ok (.isub, 1) := by decide +kernel
theorem dX7_wide_10 : decode cX7_wide 10 = .ok (.invokestatic 38, 3) := by decide +kernel
theorem dX7_wide_13 : decode cX7_wide 13 = .ok (.ifCond .ne 5, 3) := by decide +kernel
theorem dX7_wide_16 : decode cX7_wide 16 = .ok (.iconst (-1), 1) := by decide +kernel
theorem dX7_wide_17 : decode cX7_wide 17 = .ok (.ireturn, 1) := by decide +kernel
theorem dX7_wide_18 : decode cX7_wide 18 = .ok (.iconst 0, 1) := by decide +kernel
theorem dX7_wide_19 : decode cX7_wide 19 = .ok (.istore_n 3, 1) := by decide +kernel
theorem dX7_wide_20 : decode cX7_wide 20 = .ok (.iconst 0, 1) := by decide +kernel
theorem dX7_wide_21 : decode cX7_wide 21 = .ok (.istore 4, 2) := by decide +kernel
theorem dX7_wide_23 : decode cX7_wide 23 = .ok (.iload 4, 2) := by decide +kernel
theorem dX7_wide_25 : decode cX7_wide 25 = .ok (.iload_n 2, 1) := by decide +kernel
theorem dX7_wide_26 : decode cX7_wide 26 = .ok (.if_icmp .ge 87, 3) := by decide +kernel
theorem dX7_wide_29 : decode cX7_wide 29 = .ok (.aload_n 0, 1) := by decide +kernel
theorem dX7_wide_30 : decode cX7_wide 30 = .ok (.iload 4, 2) := by decide +kernel
theorem dX7_wide_32 : decode cX7_wide 32 = .ok (.invokevirtual 116, 3) := by decide +kernel
theorem dX7_wide_35 : decode cX7_wide 35 = .ok (.istore 5, 2) := by decide +kernel
theorem dX7_wide_37 : decode cX7_wide 37 = .ok (.iconst 0, 1) := by decide +kernel
theorem dX7_wide_38 : decode cX7_wide 38 = .ok (.istore 6, 2) := by decide +kernel
theorem dX7_wide_40 : decode cX7_wide 40 = .ok (.iconst 0, 1) := by decide +kernel
theorem dX7_wide_41 : decode cX7_wide 41 = .ok (.istore 7, 2) := by decide +kernel
theorem dX7_wide_43 : decode cX7_wide 43 = .ok (.iload 7, 2) := by decide +kernel
theorem dX7_wide_45 : decode cX7_wide 45 = .ok (.iload_n 2, 1) := by decide +kernel
theorem dX7_wide_46 : decode cX7_wide 46 = .ok (.if_icmp .ge 48, 3) := by decide +kernel
theorem dX7_wide_49 : decode cX7_wide 49 = .ok (.aload_n 0, 1) := by decide +kernel
theorem dX7_wide_50 : decode cX7_wide 50 = .ok (.iload 7, 2) := by decide +kernel
theorem dX7_wide_52 : decode cX7_wide 52 = .ok (.invokevirtual 116, 3) := by decide +kernel
theorem dX7_wide_55 : decode cX7_wide 55 = .ok (.istore 8, 2) := by decide +kernel
theorem dX7_wide_57 : decode cX7_wide 57 = .ok (.iload 6, 2) := by decide +kernel
theorem dX7_wide_59 : decode cX7_wide 59 = .ok (.iload 8, 2) := by decide +kernel
theorem dX7_wide_61 : decode cX7_wide 61 = .ok (.iload 5, 2) := by decide +kernel
theorem dX7_wide_63 : decode cX7_wide 63 = .ok (.if_icmp .gt 17, 3) := by decide +kernel
theorem dX7_wide_66 : decode cX7_wide 66 = .ok (.iload 8, 2) := by decide +kernel
theorem dX7_wide_68 : decode cX7_wide 68 = .ok (.iload 5, 2) := by decide +kernel
theorem dX7_wide_70 : decode cX7_wide 70 = .ok (.if_icmp .ne 14, 3) := by decide +kernel
theorem dX7_wide_73 : decode cX7_wide 73 = .ok (.iload 7, 2) := by decide +kernel
theorem dX7_wide_75 : decode cX7_wide 75 = .ok (.iload 4, 2) := by decide +kernel
theorem dX7_wide_77 : decode cX7_wide 77 = .ok (.if_icmp .ge 7, 3) := by decide +kernel
theorem dX7_wide_80 : decode cX7_wide 80 = .ok (.iconst 1, 1) := by decide +kernel
theorem dX7_wide_81 : decode cX7_wide 81 = .ok (.goto 4, 3) := by decide +kernel
theorem dX7_wide_84 : decode cX7_wide 84 = .ok (.iconst 0, 1) := by decide +kernel
theorem dX7_wide_85 : decode cX7_wide 85 = .ok (.iadd, 1) := by decide +kernel
theorem dX7_wide_86 : decode cX7_wide 86 = .ok (.istore 6, 2) := by decide +kernel
theorem dX7_wide_88 : decode cX7_wide 88 = .ok (.iinc 7 1, 3) := by decide +kernel
theorem dX7_wide_91 : decode cX7_wide 91 = .ok (.goto (-48), 3) := by decide +kernel
theorem dX7_wide_94 : decode cX7_wide 94 = .ok (.iload 6, 2) := by decide +kernel
theorem dX7_wide_96 : decode cX7_wide 96 = .ok (.iload_n 1, 1) := by decide +kernel
theorem dX7_wide_97 : decode cX7_wide 97 = .ok (.if_icmp .ne 8, 3) := by decide +kernel
theorem dX7_wide_100 : decode cX7_wide 100 = .ok (.iload 4, 2) := by decide +kernel
theorem dX7_wide_102 : decode cX7_wide 102 = .ok (.goto 4, 3) := by decide +kernel
theorem dX7_wide_105 : decode cX7_wide 105 = .ok (.iload_n 3, 1) := by decide +kernel
theorem dX7_wide_106 : decode cX7_wide 106 = .ok (.istore_n 3, 1) := by decide +kernel
theorem dX7_wide_107 : decode cX7_wide 107 = .ok (.iinc 4 1, 3) := by decide +kernel
theorem dX7_wide_110 : decode cX7_wide 110 = .ok (.goto (-87), 3) := by decide +kernel
theorem dX7_wide_113 : decode cX7_wide 113 = .ok (.iload_n 3, 1) := by decide +kernel
theorem dX7_wide_114 : decode cX7_wide 114 = .ok (.ireturn, 1) := by decide +kernel
theorem dX7_chunk_0 : decode cX7_chunk 0 = .ok (.iload_n 1, 1) := by decide +kernel
theorem dX7_chunk_1 : decode cX7_chunk 1 = .ok (.iconst 0, 1) := by decide +kernel
theorem dX7_chunk_2 : decode cX7_chunk 2 = .ok (.aload_n 0, 1) := by decide +kernel
theorem dX7_chunk_3 : decode cX7_chunk 3 = .ok (.getfield 7, 3) := by decide +kernel
theorem dX7_chunk_6 : decode cX7_chunk 6 = .ok (.iconst 1, 1) := by decide +kernel
theorem dX7_chunk_7 : decode cX7_chunk 7 = .ok (.iaload, 1) := by decide +kernel
theorem dX7_chunk_8 : decode cX7_chunk 8 = .ok (.iconst 1, 1) := by decide +kernel
theorem dX7_chunk_9 : decode cX7_chunk 9 = .ok (.isub, 1) := by decide +kernel
theorem dX7_chunk_10 : decode cX7_chunk 10 = .ok (.invokestatic 38, 3) := by decide +kernel
theorem dX7_chunk_13 : decode cX7_chunk 13 = .ok (.ifCond .eq 12, 3) := by decide +kernel
theorem dX7_chunk_16 : decode cX7_chunk 16 = .ok (.iload_n 2, 1) := by decide +kernel
theorem dX7_chunk_17 : decode cX7_chunk 17 = .ok (.iconst 0, 1) := by decide +kernel
theorem dX7_chunk_18 : decode cX7_chunk 18 = .ok (.iconst 4, 1) := by decide +kernel
theorem dX7_chunk_19 : decode cX7_chunk 19 = .ok (.invokestatic 38, 3) := by decide +kernel
theorem dX7_chunk_22 : decode cX7_chunk 22 = .ok (.ifCond .ne 5, 3) := by decide +kernel
theorem dX7_chunk_25 : decode cX7_chunk 25 = .ok (.iconst (-1), 1) := by decide +kernel
theorem dX7_chunk_26 : decode cX7_chunk 26 = .ok (.ireturn, 1) := by decide +kernel
theorem dX7_chunk_27 : decode cX7_chunk 27 = .ok (.iconst 0, 1) := by decide +kernel
theorem dX7_chunk_28 : decode cX7_chunk 28 = .ok (.istore_n 3, 1) := by decide +kernel
theorem dX7_chunk_29 : decode cX7_chunk 29 = .ok (.iconst 0, 1) := by decide +kernel
theorem dX7_chunk_30 : decode cX7_chunk 30 = .ok (.istore 4, 2) := by decide +kernel
theorem dX7_chunk_32 : decode cX7_chunk 32 = .ok (.iload 4, 2) := by decide +kernel
theorem dX7_chunk_34 : decode cX7_chunk 34 = .ok (.iload_n 1, 1) := by decide +kernel
theorem dX7_chunk_35 : decode cX7_chunk 35 = .ok (.if_icmp .ge 23, 3) := by decide +kernel
theorem dX7_chunk_38 : decode cX7_chunk 38 = .ok (.iload_n 3, 1) := by decide +kernel
theorem dX7_chunk_39 : decode cX7_chunk 39 = .ok (.aload_n 0, 1) := by decide +kernel
theorem dX7_chunk_40 : decode cX7_chunk 40 = .ok (.getfield 7, 3) := by decide +kernel
theorem dX7_chunk_43 : decode cX7_chunk 43 = .ok (.sipush 259, 3) := by decide +kernel
theorem dX7_chunk_46 : decode cX7_chunk 46 = .ok (.iload 4, 2) := by decide +kernel
theorem dX7_chunk_48 : decode cX7_chunk 48 = .ok (.iadd, 1) := by decide +kernel
theorem dX7_chunk_49 : decode cX7_chunk 49 = .ok (.iaload, 1) := by decide +kernel
theorem dX7_chunk_50 : decode cX7_chunk 50 = .ok (.iadd, 1) := by decide +kernel
theorem dX7_chunk_51 : decode cX7_chunk 51 = .ok (.istore_n 3, 1) := by decide +kernel
theorem dX7_chunk_52 : decode cX7_chunk 52 = .ok (.iinc 4 1, 3) := by decide +kernel
theorem dX7_chunk_55 : decode cX7_chunk 55 = .ok (.goto (-23), 3) := by decide +kernel
theorem dX7_chunk_58 : decode cX7_chunk 58 = .ok (.iload_n 3, 1) := by decide +kernel
theorem dX7_chunk_59 : decode cX7_chunk 59 = .ok (.aload_n 0, 1) := by decide +kernel
theorem dX7_chunk_60 : decode cX7_chunk 60 = .ok (.getfield 7, 3) := by decide +kernel
theorem dX7_chunk_63 : decode cX7_chunk 63 = .ok (.sipush 259, 3) := by decide +kernel
theorem dX7_chunk_66 : decode cX7_chunk 66 = .ok (.iload_n 1, 1) := by decide +kernel
theorem dX7_chunk_67 : decode cX7_chunk 67 = .ok (.iadd, 1) := by decide +kernel
theorem dX7_chunk_68 : decode cX7_chunk 68 = .ok (.iaload, 1) := by decide +kernel
theorem dX7_chunk_69 : decode cX7_chunk 69 = .ok (.iadd, 1) := by decide +kernel
theorem dX7_chunk_70 : decode cX7_chunk 70 = .ok (.istore 4, 2) := by decide +kernel
theorem dX7_chunk_72 : decode cX7_chunk 72 = .ok (.iload_n 2, 1) := by decide +kernel
theorem dX7_chunk_73 : decode cX7_chunk 73 = .ok (.iconst 4, 1) := by decide +kernel
theorem dX7_chunk_74 : decode cX7_chunk 74 = .ok (.if_icmp .ge 12, 3) := by decide +kernel
theorem dX7_chunk_77 : decode cX7_chunk 77 = .ok (.aload_n 0, 1) := by decide +kernel
theorem dX7_chunk_78 : decode cX7_chunk 78 = .ok (.iload_n 3, 1) := by decide +kernel
theorem dX7_chunk_79 : decode cX7_chunk 79 = .ok (.iload 4, 2) := by decide +kernel
theorem dX7_chunk_81 : decode cX7_chunk 81 = .ok (.iload_n 2, 1) := by decide +kernel
theorem dX7_chunk_82 : decode cX7_chunk 82 = .ok (.invokevirtual 96, 3) := by decide +kernel
theorem dX7_chunk_85 : decode cX7_chunk 85 = .ok (.ireturn, 1) := by decide +kernel
theorem dX7_chunk_86 : decode cX7_chunk 86 = .ok (.iconst 0, 1) := by decide +kernel
theorem dX7_chunk_87 : decode cX7_chunk 87 = .ok (.istore 5, 2) := by decide +kernel
theorem dX7_chunk_89 : decode cX7_chunk 89 = .ok (.iconst 0, 1) := by decide +kernel
theorem dX7_chunk_90 : decode cX7_chunk 90 = .ok (.istore 6, 2) := by decide +kernel
theorem dX7_chunk_92 : decode cX7_chunk 92 = .ok (.iload_n 3, 1) := by decide +kernel
theorem dX7_chunk_93 : decode cX7_chunk 93 = .ok (.istore 7, 2) := by decide +kernel
theorem dX7_chunk_95 : decode cX7_chunk 95 = .ok (.iload 7, 2) := by decide +kernel
theorem dX7_chunk_97 : decode cX7_chunk 97 = .ok (.iload 4, 2) := by decide +kernel
theorem dX7_chunk_99 : decode cX7_chunk 99 = .ok (.if_icmp .ge 55, 3) := by decide +kernel
theorem dX7_chunk_102 : decode cX7_chunk 102 = .ok (.aload_n 0, 1) := by decide +kernel
theorem dX7_chunk_103 : decode cX7_chunk 103 = .ok (.iload 7, 2) := by decide +kernel
theorem dX7_chunk_105 : decode cX7_chunk 105 = .ok (.invokevirtual 89, 3) := by decide +kernel
theorem dX7_chunk_108 : decode cX7_chunk 108 = .ok (.bipush 10, 2) := by decide +kernel
theorem dX7_chunk_110 : decode cX7_chunk 110 = .ok (.if_icmp .ne 7, 3) := by decide +kernel
theorem dX7_chunk_113 : decode cX7_chunk 113 = .ok (.iconst 0, 1) := by decide +kernel
theorem dX7_chunk_114 : decode cX7_chunk 114 = .ok (.goto 16, 3) := by decide +kernel
theorem dX7_chunk_117 : decode cX7_chunk 117 = .ok (.iload 6, 2) := by decide +kernel
theorem dX7_chunk_119 : decode cX7_chunk 119 = .ok (.aload_n 0, 1) := by decide +kernel
theorem dX7_chunk_120 : decode cX7_chunk 120 = .ok (.iload 7, 2) := by decide +kernel
theorem dX7_chunk_122 : decode cX7_chunk 122 = .ok (.invokevirtual 89, 3) := by decide +kernel
theorem dX7_chunk_125 : decode cX7_chunk 125 = .ok (.iconst 3, 1) := by decide +kernel
theorem dX7_chunk_126 : decode cX7_chunk 126 = .ok (.invokestatic 92, 3) := by decide +kernel
theorem dX7_chunk_129 : decode cX7_chunk 129 = .ok (.iadd, 1) := by decide +kernel
theorem dX7_chunk_130 : decode cX7_chunk 130 = .ok (.istore 6, 2) := by decide +kernel
theorem dX7_chunk_132 : decode cX7_chunk 132 = .ok (.iload 6, 2) := by decide +kernel
theorem dX7_chunk_134 : decode cX7_chunk 134 = .ok (.iload 5, 2) := by decide +kernel
theorem dX7_chunk_136 : decode cX7_chunk 136 = .ok (.if_icmp .le 8, 3) := by decide +kernel
theorem dX7_chunk_139 : decode cX7_chunk 139 = .ok (.iload 6, 2) := by decide +kernel
theorem dX7_chunk_141 : decode cX7_chunk 141 = .ok (.goto 5, 3) := by decide +kernel
theorem dX7_chunk_144 : decode cX7_chunk 144 = .ok (.iload 5, 2) := by decide +kernel
theorem dX7_chunk_146 : decode cX7_chunk 146 = .ok (.istore 5, 2) := by decide +kernel
theorem dX7_chunk_148 : decode cX7_chunk 148 = .ok (.iinc 7 1, 3) := by decide +kernel
theorem dX7_chunk_151 : decode cX7_chunk 151 = .ok (.goto (-56), 3) := by decide +kernel
theorem dX7_chunk_154 : decode cX7_chunk 154 = .ok (.iload 5, 2) := by decide +kernel
theorem dX7_chunk_156 : decode cX7_chunk 156 = .ok (.ireturn, 1) := by decide +kernel
theorem dX7_isName_0 : decode cX7_isName 0 = .ok (.iload_n 0, 1) := by decide +kernel
theorem dX7_isName_1 : decode cX7_isName 1 = .ok (.bipush 97, 2) := by decide +kernel
theorem dX7_isName_3 : decode cX7_isName 3 = .ok (.bipush 122, 2) := by decide +kernel
theorem dX7_isName_5 : decode cX7_isName 5 = .ok (.invokestatic 38, 3) := by decide +kernel
theorem dX7_isName_8 : decode cX7_isName 8 = .ok (.ireturn, 1) := by decide +kernel
theorem dX7_marksOf_0 : decode cX7_marksOf 0 = .ok (.iconst 0, 1) := by decide +kernel
theorem dX7_marksOf_1 : decode cX7_marksOf 1 = .ok (.istore_n 1, 1) := by decide +kernel
theorem dX7_marksOf_2 : decode cX7_marksOf 2 = .ok (.sipush 515, 3) := by decide +kernel
theorem dX7_marksOf_5 : decode cX7_marksOf 5 = .ok (.istore_n 2, 1) := by decide +kernel
theorem dX7_marksOf_6 : decode cX7_marksOf 6 = .ok (.iload_n 2, 1) := by decide +kernel
theorem dX7_marksOf_7 : decode cX7_marksOf 7 = .ok (.sipush 541, 3) := by decide +kernel
theorem dX7_marksOf_10 : decode cX7_marksOf 10 = .ok (.if_icmp .ge 26, 3) := by decide +kernel
theorem dX7_marksOf_13 : decode cX7_marksOf 13 = .ok (.iload_n 1, 1) := by decide +kernel
theorem dX7_marksOf_14 : decode cX7_marksOf 14 = .ok (.aload_n 0, 1) := by decide +kernel
theorem dX7_marksOf_15 : decode cX7_marksOf 15 = .ok (.getfield 7, 3) := by decide +kernel
theorem dX7_marksOf_18 : decode cX7_marksOf 18 = .ok (.iload_n 2, 1) := by decide +kernel
theorem dX7_marksOf_19 : decode cX7_marksOf 19 = .ok (.iaload, 1) := by decide +kernel
theorem dX7_marksOf_20 : decode cX7_marksOf 20 = .ok (.ifCond .ge 7, 3) := by decide +kernel
theorem dX7_marksOf_23 : decode cX7_marksOf 23 = .ok (.iconst 0, 1) := by decide +kernel
theorem dX7_marksOf_24 : decode cX7_marksOf 24 = .ok (.goto 4, 3) := by decide +kernel
theorem dX7_marksOf_27 : decode cX7_marksOf 27 = .ok (.iconst 1, 1) := by decide +kernel
theorem dX7_marksOf_28 : decode cX7_marksOf 28 = .ok (.iadd, 1) := by decide +kernel
theorem dX7_marksOf_29 : decode cX7_marksOf 29 = .ok (.istore_n 1, 1) := by decide +kernel
theorem dX7_marksOf_30 : decode cX7_marksOf 30 = .ok (.iinc 2 1, 3) := by decide +kernel
theorem dX7_marksOf_33 : decode cX7_marksOf 33 = .ok (.goto (-27), 3) := by decide +kernel
theorem dX7_marksOf_36 : decode cX7_marksOf 36 = .ok (.iload_n 1, 1) := by decide +kernel
theorem dX7_marksOf_37 : decode cX7_marksOf 37 = .ok (.ireturn, 1) := by decide +kernel
theorem dX7_told_0 : decode cX7_told 0 = .ok (.iload_n 0, 1) := by decide +kernel
theorem dX7_told_1 : decode cX7_told 1 = .ok (.ifCond .ge 8, 3) := by decide +kernel
theorem dX7_told_4 : decode cX7_told 4 = .ok (.bipush (-9), 2) := by decide +kernel
theorem dX7_told_6 : decode cX7_told 6 = .ok (.goto 4, 3) := by decide +kernel
theorem dX7_told_9 : decode cX7_told 9 = .ok (.iload_n 0, 1) := by decide +kernel
theorem dX7_told_10 : decode cX7_told 10 = .ok (.ireturn, 1) := by decide +kernel
theorem dX7_marks_0 : decode cX7_marks 0 = .ok (.iload_n 1, 1) := by decide +kernel
theorem dX7_marks_1 : decode cX7_marks 1 = .ok (.invokestatic 119, 3) := by decide +kernel
theorem dX7_marks_4 : decode cX7_marks 4 = .ok (.ifCond .eq 11, 3) := by decide +kernel
theorem dX7_marks_7 : decode cX7_marks 7 = .ok (.aload_n 0, 1) := by decide +kernel
theorem dX7_marks_8 : decode cX7_marks 8 = .ok (.iload_n 2, 1) := by decide +kernel
theorem dX7_marks_9 : decode cX7_marks 9 = .ok (.invokevirtual 68, 3) := by decide +kernel
theorem dX7_marks_12 : decode cX7_marks 12 = .ok (.ifCond .ne 5, 3) := by decide +kernel
theorem dX7_marks_15 : decode cX7_marks 15 = .ok (.iconst (-1), 1) := by decide +kernel
theorem dX7_marks_16 : decode cX7_marks 16 = .ok (.ireturn, 1) := by decide +kernel
theorem dX7_marks_17 : decode cX7_marks 17 = .ok (.aload_n 0, 1) := by decide +kernel
theorem dX7_marks_18 : decode cX7_marks 18 = .ok (.getfield 7, 3) := by decide +kernel
theorem dX7_marks_21 : decode cX7_marks 21 = .ok (.sipush 515, 3) := by decide +kernel
theorem dX7_marks_24 : decode cX7_marks 24 = .ok (.iload_n 1, 1) := by decide +kernel
theorem dX7_marks_25 : decode cX7_marks 25 = .ok (.iadd, 1) := by decide +kernel
theorem dX7_marks_26 : decode cX7_marks 26 = .ok (.bipush 97, 2) := by decide +kernel
theorem dX7_marks_28 : decode cX7_marks 28 = .ok (.isub, 1) := by decide +kernel
theorem dX7_marks_29 : decode cX7_marks 29 = .ok (.iaload, 1) := by decide +kernel
theorem dX7_marks_30 : decode cX7_marks 30 = .ok (.istore_n 3, 1) := by decide +kernel
theorem dX7_marks_31 : decode cX7_marks 31 = .ok (.iload_n 3, 1) := by decide +kernel
theorem dX7_marks_32 : decode cX7_marks 32 = .ok (.ifCond .ge 15, 3) := by decide +kernel
theorem dX7_marks_35 : decode cX7_marks 35 = .ok (.aload_n 0, 1) := by decide +kernel
theorem dX7_marks_36 : decode cX7_marks 36 = .ok (.invokevirtual 122, 3) := by decide +kernel
theorem dX7_marks_39 : decode cX7_marks 39 = .ok (.bipush 8, 2) := by decide +kernel
theorem dX7_marks_41 : decode cX7_marks 41 = .ok (.if_icmp .ne 6, 3) := by decide +kernel
theorem dX7_marks_44 : decode cX7_marks 44 = .ok (.bipush (-3), 2) := by decide +kernel
theorem dX7_marks_46 : decode cX7_marks 46 = .ok (.ireturn, 1) := by decide +kernel
theorem dX7_marks_47 : decode cX7_marks 47 = .ok (.aload_n 0, 1) := by decide +kernel
theorem dX7_marks_48 : decode cX7_marks 48 = .ok (.getfield 7, 3) := by decide +kernel
theorem dX7_marks_51 : decode cX7_marks 51 = .ok (.sipush 515, 3) := by decide +kernel
theorem dX7_marks_54 : decode cX7_marks 54 = .ok (.iload_n 1, 1) := by decide +kernel
theorem dX7_marks_55 : decode cX7_marks 55 = .ok (.iadd, 1) := by decide +kernel
theorem dX7_marks_56 : decode cX7_marks 56 = .ok (.bipush 97, 2) := by decide +kernel
theorem dX7_marks_58 : decode cX7_marks 58 = .ok (.isub, 1) := by decide +kernel
theorem dX7_marks_59 : decode cX7_marks 59 = .ok (.iload_n 2, 1) := by decide +kernel
theorem dX7_marks_60 : decode cX7_marks 60 = .ok (.iastore, 1) := by decide +kernel
theorem dX7_marks_61 : decode cX7_marks 61 = .ok (.iload_n 3, 1) := by decide +kernel
theorem dX7_marks_62 : decode cX7_marks 62 = .ok (.invokestatic 125, 3) := by decide +kernel
theorem dX7_marks_65 : decode cX7_marks 65 = .ok (.ireturn, 1) := by decide +kernel
theorem dX7_lifts_0 : decode cX7_lifts 0 = .ok (.iload_n 1, 1) := by decide +kernel
theorem dX7_lifts_1 : decode cX7_lifts 1 = .ok (.invokestatic 119, 3) := by decide +kernel
theorem dX7_lifts_4 : decode cX7_lifts 4 = .ok (.ifCond .ne 5, 3) := by decide +kernel
theorem dX7_lifts_7 : decode cX7_lifts 7 = .ok (.iconst (-1), 1) := by decide +kernel
theorem dX7_lifts_8 : decode cX7_lifts 8 = .ok (.ireturn, 1) := by decide +kernel
theorem dX7_lifts_9 : decode cX7_lifts 9 = .ok (.aload_n 0, 1) := by decide +kernel
theorem dX7_lifts_10 : decode cX7_lifts 10 = .ok (.getfield 7, 3) := by decide +kernel
theorem dX7_lifts_13 : decode cX7_lifts 13 = .ok (.sipush 515, 3) := by decide +kernel
theorem dX7_lifts_16 : decode cX7_lifts 16 = .ok (.iload_n 1, 1) := by decide +kernel
theorem dX7_lifts_17 : decode cX7_lifts 17 = .ok (.iadd, 1) := by decide +kernel
theorem dX7_lifts_18 : decode cX7_lifts 18 = .ok (.bipush 97, 2) := by decide +kernel
theorem dX7_lifts_20 : decode cX7_lifts 20 = .ok (.isub, 1) := by decide +kernel
theorem dX7_lifts_21 : decode cX7_lifts 21 = .ok (.iaload, 1) := by decide +kernel
theorem dX7_lifts_22 : decode cX7_lifts 22 = .ok (.istore_n 2, 1) := by decide +kernel
theorem dX7_lifts_23 : decode cX7_lifts 23 = .ok (.iload_n 2, 1) := by decide +kernel
theorem dX7_lifts_24 : decode cX7_lifts 24 = .ok (.ifCond .ge 6, 3) := by decide +kernel
theorem dX7_lifts_27 : decode cX7_lifts 27 = .ok (.bipush (-2), 2) := by decide +kernel
theorem dX7_lifts_29 : decode cX7_lifts 29 = .ok (.ireturn, 1) := by decide +kernel
theorem dX7_lifts_30 : decode cX7_lifts 30 = .ok (.aload_n 0, 1) := by decide +kernel
theorem dX7_lifts_31 : decode cX7_lifts 31 = .ok (.getfield 7, 3) := by decide +kernel
theorem dX7_lifts_34 : decode cX7_lifts 34 = .ok (.sipush 515, 3) := by decide +kernel
theorem dX7_lifts_37 : decode cX7_lifts 37 = .ok (.iload_n 1, 1) := by decide +kernel
theorem dX7_lifts_38 : decode cX7_lifts 38 = .ok (.iadd, 1) := by decide +kernel
theorem dX7_lifts_39 : decode cX7_lifts 39 = .ok (.bipush 97, 2) := by decide +kernel
theorem dX7_lifts_41 : decode cX7_lifts 41 = .ok (.isub, 1) := by decide +kernel
theorem dX7_lifts_42 : decode cX7_lifts 42 = .ok (.iconst (-1), 1) := by decide +kernel
theorem dX7_lifts_43 : decode cX7_lifts 43 = .ok (.iastore, 1) := by decide +kernel
theorem dX7_lifts_44 : decode cX7_lifts 44 = .ok (.iload_n 2, 1) := by decide +kernel
theorem dX7_lifts_45 : decode cX7_lifts 45 = .ok (.ireturn, 1) := by decide +kernel
theorem dX7_mark_0 : decode cX7_mark 0 = .ok (.iload_n 1, 1) := by decide +kernel
theorem dX7_mark_1 : decode cX7_mark 1 = .ok (.invokestatic 119, 3) := by decide +kernel
theorem dX7_mark_4 : decode cX7_mark 4 = .ok (.ifCond .eq 22, 3) := by decide +kernel
theorem dX7_mark_7 : decode cX7_mark 7 = .ok (.aload_n 0, 1) := by decide +kernel
theorem dX7_mark_8 : decode cX7_mark 8 = .ok (.getfield 7, 3) := by decide +kernel
theorem dX7_mark_11 : decode cX7_mark 11 = .ok (.sipush 515, 3) := by decide +kernel
theorem dX7_mark_14 : decode cX7_mark 14 = .ok (.iload_n 1, 1) := by decide +kernel
theorem dX7_mark_15 : decode cX7_mark 15 = .ok (.iadd, 1) := by decide +kernel
theorem dX7_mark_16 : decode cX7_mark 16 = .ok (.bipush 97, 2) := by decide +kernel
theorem dX7_mark_18 : decode cX7_mark 18 = .ok (.isub, 1) := by decide +kernel
theorem dX7_mark_19 : decode cX7_mark 19 = .ok (.iaload, 1) := by decide +kernel
theorem dX7_mark_20 : decode cX7_mark 20 = .ok (.invokestatic 125, 3) := by decide +kernel
theorem dX7_mark_23 : decode cX7_mark 23 = .ok (.goto 4, 3) := by decide +kernel
theorem dX7_mark_26 : decode cX7_mark 26 = .ok (.iconst (-1), 1) := by decide +kernel
theorem dX7_mark_27 : decode cX7_mark 27 = .ok (.ireturn, 1) := by decide +kernel
theorem dX7_next_0 : decode cX7_next 0 = .ok (.aload_n 0, 1) := by decide +kernel
theorem dX7_next_1 : decode cX7_next 1 = .ok (.iload_n 1, 1) := by decide +kernel
theorem dX7_next_2 : decode cX7_next 2 = .ok (.invokevirtual 68, 3) := by decide +kernel
theorem dX7_next_5 : decode cX7_next 5 = .ok (.ifCond .ne 5, 3) := by decide +kernel
theorem dX7_next_8 : decode cX7_next 8 = .ok (.iconst (-1), 1) := by decide +kernel
theorem dX7_next_9 : decode cX7_next 9 = .ok (.ireturn, 1) := by decide +kernel
theorem dX7_next_10 : decode cX7_next 10 = .ok (.bipush (-9), 2) := by decide +kernel
theorem dX7_next_12 : decode cX7_next 12 = .ok (.istore_n 2, 1) := by decide +kernel
theorem dX7_next_13 : decode cX7_next 13 = .ok (.bipush 121, 2) := by decide +kernel
theorem dX7_next_15 : decode cX7_next 15 = .ok (.istore_n 3, 1) := by decide +kernel
theorem dX7_next_16 : decode cX7_next 16 = .ok (.iconst 0, 1) := by decide +kernel
theorem dX7_next_17 : decode cX7_next 17 = .ok (.istore 4, 2) := by decide +kernel
theorem dX7_next_19 : decode cX7_next 19 = .ok (.iload 4, 2) := by decide +kernel
theorem dX7_next_21 : decode cX7_next 21 = .ok (.bipush 26, 2) := by decide +kernel
theorem dX7_next_23 : decode cX7_next 23 = .ok (.if_icmp .ge 43, 3) := by decide +kernel
theorem dX7_next_26 : decode cX7_next 26 = .ok (.aload_n 0, 1) := by decide +kernel
theorem dX7_next_27 : decode cX7_next 27 = .ok (.getfield 7, 3) := by decide +kernel
theorem dX7_next_30 : decode cX7_next 30 = .ok (.sipush 515, 3) := by decide +kernel
theorem dX7_next_33 : decode cX7_next 33 = .ok (.iload 4, 2) := by decide +kernel
theorem dX7_next_35 : decode cX7_next 35 = .ok (.iadd, 1) := by decide +kernel
theorem dX7_next_36 : decode cX7_next 36 = .ok (.iaload, 1) := by decide +kernel
theorem dX7_next_37 : decode cX7_next 37 = .ok (.istore 5, 2) := by decide +kernel
theorem dX7_next_39 : decode cX7_next 39 = .ok (.iload 5, 2) := by decide +kernel
theorem dX7_next_41 : decode cX7_next 41 = .ok (.iload_n 1, 1) := by decide +kernel
theorem dX7_next_42 : decode cX7_next 42 = .ok (.if_icmp .lt 18, 3) := by decide +kernel
theorem dX7_next_45 : decode cX7_next 45 = .ok (.iload 5, 2) := by decide +kernel
theorem dX7_next_47 : decode cX7_next 47 = .ok (.iload_n 3, 1) := by decide +kernel
theorem dX7_next_48 : decode cX7_next 48 = .ok (.if_icmp .ge 12, 3) := by decide +kernel
theorem dX7_next_51 : decode cX7_next 51 = .ok (.bipush 97, 2) := by decide +kernel
theorem dX7_next_53 : decode cX7_next 53 = .ok (.iload 4, 2) := by decide +kernel
theorem dX7_next_55 : decode cX7_next 55 = .ok (.iadd, 1) := by decide +kernel
theorem dX7_next_56 : decode cX7_next 56 = .ok (.istore_n 2, 1) := by decide +kernel
theorem dX7_next_57 : decode cX7_next 57 = .ok (.iload 5, 2) := by decide +kernel
theorem dX7_next_59 : decode cX7_next 59 = .ok (.istore_n 3, 1) := by decide +kernel
theorem dX7_next_60 : decode cX7_next 60 = .ok (.iinc 4 1, 3) := by decide +kernel
theorem dX7_next_63 : decode cX7_next 63 = .ok (.goto (-44), 3) := by decide +kernel
theorem dX7_next_66 : decode cX7_next 66 = .ok (.iload_n 2, 1) := by decide +kernel
theorem dX7_next_67 : decode cX7_next 67 = .ok (.ireturn, 1) := by decide +kernel
theorem dX7_seeks_0 : decode cX7_seeks 0 = .ok (.aload_n 0, 1) := by decide +kernel
theorem dX7_seeks_1 : decode cX7_seeks 1 = .ok (.iload_n 1, 1) := by decide +kernel
theorem dX7_seeks_2 : decode cX7_seeks 2 = .ok (.invokevirtual 68, 3) := by decide +kernel
theorem dX7_seeks_5 : decode cX7_seeks 5 = .ok (.ifCond .ne 5, 3) := by decide +kernel
theorem dX7_seeks_8 : decode cX7_seeks 8 = .ok (.iconst (-1), 1) := by decide +kernel
theorem dX7_seeks_9 : decode cX7_seeks 9 = .ok (.ireturn, 1) := by decide +kernel
theorem dX7_seeks_10 : decode cX7_seeks 10 = .ok (.aload_n 0, 1) := by decide +kernel
theorem dX7_seeks_11 : decode cX7_seeks 11 = .ok (.getfield 7, 3) := by decide +kernel
theorem dX7_seeks_14 : decode cX7_seeks 14 = .ok (.iconst 2, 1) := by decide +kernel
theorem dX7_seeks_15 : decode cX7_seeks 15 = .ok (.iaload, 1) := by decide +kernel
theorem dX7_seeks_16 : decode cX7_seeks 16 = .ok (.istore_n 2, 1) := by decide +kernel
theorem dX7_seeks_17 : decode cX7_seeks 17 = .ok (.aload_n 0, 1) := by decide +kernel
theorem dX7_seeks_18 : decode cX7_seeks 18 = .ok (.getfield 7, 3) := by decide +kernel
theorem dX7_seeks_21 : decode cX7_seeks 21 = .ok (.iconst 2, 1) := by decide +kernel
theorem dX7_seeks_22 : decode cX7_seeks 22 = .ok (.iload_n 1, 1) := by decide +kernel
theorem dX7_seeks_23 : decode cX7_seeks 23 = .ok (.iastore, 1) := by decide +kernel
theorem dX7_seeks_24 : decode cX7_seeks 24 = .ok (.iload_n 2, 1) := by decide +kernel
theorem dX7_seeks_25 : decode cX7_seeks 25 = .ok (.ireturn, 1) := by decide +kernel
theorem dX7_reads_0 : decode cX7_reads 0 = .ok (.aload_n 0, 1) := by decide +kernel
theorem dX7_reads_1 : decode cX7_reads 1 = .ok (.getfield 7, 3) := by decide +kernel
theorem dX7_reads_4 : decode cX7_reads 4 = .ok (.iconst 2, 1) := by decide +kernel
theorem dX7_reads_5 : decode cX7_reads 5 = .ok (.iaload, 1) := by decide +kernel
theorem dX7_reads_6 : decode cX7_reads 6 = .ok (.istore_n 1, 1) := by decide +kernel
theorem dX7_reads_7 : decode cX7_reads 7 = .ok (.iload_n 1, 1) := by decide +kernel
theorem dX7_reads_8 : decode cX7_reads 8 = .ok (.aload_n 0, 1) := by decide +kernel
theorem dX7_reads_9 : decode cX7_reads 9 = .ok (.getfield 7, 3) := by decide +kernel
theorem dX7_reads_12 : decode cX7_reads 12 = .ok (.iconst 0, 1) := by decide +kernel
theorem dX7_reads_13 : decode cX7_reads 13 = .ok (.iaload, 1) := by decide +kernel
theorem dX7_reads_14 : decode cX7_reads 14 = .ok (.if_icmp .ne 6, 3) := by decide +kernel
theorem dX7_reads_17 : decode cX7_reads 17 = .ok (.bipush (-9), 2) := by decide +kernel
theorem dX7_reads_19 : decode cX7_reads 19 = .ok (.ireturn, 1) := by decide +kernel
theorem dX7_reads_20 : decode cX7_reads 20 = .ok (.aload_n 0, 1) := by decide +kernel
theorem dX7_reads_21 : decode cX7_reads 21 = .ok (.iload_n 1, 1) := by decide +kernel
theorem dX7_reads_22 : decode cX7_reads 22 = .ok (.invokevirtual 89, 3) := by decide +kernel
theorem dX7_reads_25 : decode cX7_reads 25 = .ok (.istore_n 2, 1) := by decide +kernel
theorem dX7_reads_26 : decode cX7_reads 26 = .ok (.iinc 1 1, 3) := by decide +kernel
theorem dX7_reads_29 : decode cX7_reads 29 = .ok (.iload_n 1, 1) := by decide +kernel
theorem dX7_reads_30 : decode cX7_reads 30 = .ok (.aload_n 0, 1) := by decide +kernel
theorem dX7_reads_31 : decode cX7_reads 31 = .ok (.getfield 7, 3) := by decide +kernel
theorem dX7_reads_34 : decode cX7_reads 34 = .ok (.iconst 0, 1) := by decide +kernel
theorem dX7_reads_35 : decode cX7_reads 35 = .ok (.iaload, 1) := by decide +kernel
theorem dX7_reads_36 : decode cX7_reads 36 = .ok (.if_icmp .ge 20, 3) := by decide +kernel
theorem dX7_reads_39 : decode cX7_reads 39 = .ok (.aload_n 0, 1) := by decide +kernel
theorem dX7_reads_40 : decode cX7_reads 40 = .ok (.iload_n 1, 1) := by decide +kernel
theorem dX7_reads_41 : decode cX7_reads 41 = .ok (.invokevirtual 89, 3) := by decide +kernel
theorem dX7_reads_44 : decode cX7_reads 44 = .ok (.invokestatic 86, 3) := by decide +kernel
theorem dX7_reads_47 : decode cX7_reads 47 = .ok (.ifCond .ne 9, 3) := by decide +kernel
theorem dX7_reads_50 : decode cX7_reads 50 = .ok (.iinc 1 1, 3) := by decide +kernel
theorem dX7_reads_53 : decode cX7_reads 53 = .ok (.goto (-24), 3) := by decide +kernel
theorem dX7_reads_56 : decode cX7_reads 56 = .ok (.aload_n 0, 1) := by decide +kernel
theorem dX7_reads_57 : decode cX7_reads 57 = .ok (.getfield 7, 3) := by decide +kernel
theorem dX7_reads_60 : decode cX7_reads 60 = .ok (.iconst 2, 1) := by decide +kernel
theorem dX7_reads_61 : decode cX7_reads 61 = .ok (.iload_n 1, 1) := by decide +kernel
theorem dX7_reads_62 : decode cX7_reads 62 = .ok (.iastore, 1) := by decide +kernel
theorem dX7_reads_63 : decode cX7_reads 63 = .ok (.iload_n 2, 1) := by decide +kernel
theorem dX7_reads_64 : decode cX7_reads 64 = .ok (.ireturn, 1) := by decide +kernel
theorem dX7_keep_0 : decode cX7_keep 0 = .ok (.iload_n 1, 1) := by decide +kernel
theorem dX7_keep_1 : decode cX7_keep 1 = .ok (.iconst 0, 1) := by decide +kernel
theorem dX7_keep_2 : decode cX7_keep 2 = .ok (.iconst 1, 1) := by decide +kernel
theorem dX7_keep_3 : decode cX7_keep 3 = .ok (.invokestatic 38, 3) := by decide +kernel
theorem dX7_keep_6 : decode cX7_keep 6 = .ok (.ifCond .ne 5, 3) := by decide +kernel
theorem dX7_keep_9 : decode cX7_keep 9 = .ok (.iconst (-1), 1) := by decide +kernel
theorem dX7_keep_10 : decode cX7_keep 10 = .ok (.ireturn, 1) := by decide +kernel
theorem dX7_keep_11 : decode cX7_keep 11 = .ok (.iconst 0, 1) := by decide +kernel
theorem dX7_keep_12 : decode cX7_keep 12 = .ok (.istore_n 2, 1) := by decide +kernel
theorem dX7_keep_13 : decode cX7_keep 13 = .ok (.iload_n 2, 1) := by decide +kernel
theorem dX7_keep_14 : decode cX7_keep 14 = .ok (.sipush 541, 3) := by decide +kernel
theorem dX7_keep_17 : decode cX7_keep 17 = .ok (.if_icmp .ge 27, 3) := by decide +kernel
theorem dX7_keep_20 : decode cX7_keep 20 = .ok (.aload_n 0, 1) := by decide +kernel
theorem dX7_keep_21 : decode cX7_keep 21 = .ok (.getfield 16, 3) := by decide +kernel
theorem dX7_keep_24 : decode cX7_keep 24 = .ok (.sipush 541, 3) := by decide +kernel
theorem dX7_keep_27 : decode cX7_keep 27 = .ok (.iload_n 1, 1) := by decide +kernel
theorem dX7_keep_28 : decode cX7_keep 28 = .ok (.imul, 1) := by decide +kernel
theorem dX7_keep_29 : decode cX7_keep 29 = .ok (.iload_n 2, 1) := by decide +kernel
theorem dX7_keep_30 : decode cX7_keep 30 = .ok (.iadd, 1) := by decide +kernel
theorem dX7_keep_31 : decode cX7_keep 31 = .ok (.aload_n 0, 1) := by decide +kernel
theorem dX7_keep_32 : decode cX7_keep 32 = .ok (.getfield 7, 3) := by decide +kernel
theorem dX7_keep_35 : decode cX7_keep 35 = .ok (.iload_n 2, 1) := by decide +kernel
theorem dX7_keep_36 : decode cX7_keep 36 = .ok (.iaload, 1) := by decide +kernel
theorem dX7_keep_37 : decode cX7_keep 37 = .ok (.iastore, 1) := by decide +kernel
theorem dX7_keep_38 : decode cX7_keep 38 = .ok (.iinc 2 1, 3) := by decide +kernel
theorem dX7_keep_41 : decode cX7_keep 41 = .ok (.goto (-28), 3) := by decide +kernel
theorem dX7_keep_44 : decode cX7_keep 44 = .ok (.aload_n 0, 1) := by decide +kernel
theorem dX7_keep_45 : decode cX7_keep 45 = .ok (.getfield 19, 3) := by decide +kernel
theorem dX7_keep_48 : decode cX7_keep 48 = .ok (.iload_n 1, 1) := by decide +kernel
theorem dX7_keep_49 : decode cX7_keep 49 = .ok (.iconst 1, 1) := by decide +kernel
theorem dX7_keep_50 : decode cX7_keep 50 = .ok (.bastore, 1) := by decide +kernel
theorem dX7_keep_51 : decode cX7_keep 51 = .ok (.aload_n 0, 1) := by decide +kernel
theorem dX7_keep_52 : decode cX7_keep 52 = .ok (.getfield 7, 3) := by decide +kernel
theorem dX7_keep_55 : decode cX7_keep 55 = .ok (.iconst 0, 1) := by decide +kernel
theorem dX7_keep_56 : decode cX7_keep 56 = .ok (.iaload, 1) := by decide +kernel
theorem dX7_keep_57 : decode cX7_keep 57 = .ok (.ireturn, 1) := by decide +kernel
theorem dX7_back_0 : decode cX7_back 0 = .ok (.iload_n 1, 1) := by decide +kernel
theorem dX7_back_1 : decode cX7_back 1 = .ok (.iconst 0, 1) := by decide +kernel
theorem dX7_back_2 : decode cX7_back 2 = .ok (.iconst 1, 1) := by decide +kernel
theorem dX7_back_3 : decode cX7_back 3 = .ok (.invokestatic 38, 3) := by decide +kernel
theorem dX7_back_6 : decode cX7_back 6 = .ok (.ifCond .ne 5, 3) := by decide +kernel
theorem dX7_back_9 : decode cX7_back 9 = .ok (.iconst (-1), 1) := by decide +kernel
theorem dX7_back_10 : decode cX7_back 10 = .ok (.ireturn, 1) := by decide +kernel
theorem dX7_back_11 : decode cX7_back 11 = .ok (.aload_n 0, 1) := by decide +kernel
theorem dX7_back_12 : decode cX7_back 12 = .ok (.getfield 19, 3) := by decide +kernel
theorem dX7_back_15 : decode cX7_back 15 = .ok (.iload_n 1, 1) := by decide +kernel
theorem dX7_back_16 : decode cX7_back 16 = .ok (.baload, 1) := by decide +kernel
theorem dX7_back_17 : decode cX7_back 17 = .ok (.ifCond .ne 6, 3) := by decide +kernel
theorem dX7_back_20 : decode cX7_back 20 = .ok (.bipush (-2), 2) := by decide +kernel
theorem dX7_back_22 : decode cX7_back 22 = .ok (.ireturn, 1) := by decide +kernel
theorem dX7_back_23 : decode cX7_back 23 = .ok (.iconst 0, 1) := by decide +kernel
theorem dX7_back_24 : decode cX7_back 24 = .ok (.istore_n 2, 1) := by decide +kernel
theorem dX7_back_25 : decode cX7_back 25 = .ok (.iload_n 2, 1) := by decide +kernel
theorem dX7_back_26 : decode cX7_back 26 = .ok (.sipush 541, 3) := by decide +kernel
theorem dX7_back_29 : decode cX7_back 29 = .ok (.if_icmp .ge 27, 3) := by decide +kernel
theorem dX7_back_32 : decode cX7_back 32 = .ok (.aload_n 0, 1) := by decide +kernel
theorem dX7_back_33 : decode cX7_back 33 = .ok (.getfield 7, 3) := by decide +kernel
theorem dX7_back_36 : decode cX7_back 36 = .ok (.iload_n 2, 1) := by decide +kernel
theorem dX7_back_37 : decode cX7_back 37 = .ok (.aload_n 0, 1) := by decide +kernel
theorem dX7_back_38 : decode cX7_back 38 = .ok (.getfield 16, 3) := by decide +kernel
theorem dX7_back_41 : decode cX7_back 41 = .ok (.sipush 541, 3) := by decide +kernel
theorem dX7_back_44 : decode cX7_back 44 = .ok (.iload_n 1, 1) := by decide +kernel
theorem dX7_back_45 : decode cX7_back 45 = .ok (.imul, 1) := by decide +kernel
theorem dX7_back_46 : decode cX7_back 46 = .ok (.iload_n 2, 1) := by decide +kernel
theorem dX7_back_47 : decode cX7_back 47 = .ok (.iadd, 1) := by decide +kernel
theorem dX7_back_48 : decode cX7_back 48 = .ok (.iaload, 1) := by decide +kernel
theorem dX7_back_49 : decode cX7_back 49 = .ok (.iastore, 1) := by decide +kernel
theorem dX7_back_50 : decode cX7_back 50 = .ok (.iinc 2 1, 3) := by decide +kernel
theorem dX7_back_53 : decode cX7_back 53 = .ok (.goto (-28), 3) := by decide +kernel
theorem dX7_back_56 : decode cX7_back 56 = .ok (.aload_n 0, 1) := by decide +kernel
theorem dX7_back_57 : decode cX7_back 57 = .ok (.iconst 0, 1) := by decide +kernel
theorem dX7_back_58 : decode cX7_back 58 = .ok (.putfield 61, 3) := by decide +kernel
theorem dX7_back_61 : decode cX7_back 61 = .ok (.aload_n 0, 1) := by decide +kernel
theorem dX7_back_62 : decode cX7_back 62 = .ok (.iconst 0, 1) := by decide +kernel
theorem dX7_back_63 : decode cX7_back 63 = .ok (.putfield 76, 3) := by decide +kernel
theorem dX7_back_66 : decode cX7_back 66 = .ok (.aload_n 0, 1) := by decide +kernel
theorem dX7_back_67 : decode cX7_back 67 = .ok (.getfield 7, 3) := by decide +kernel
theorem dX7_back_70 : decode cX7_back 70 = .ok (.iconst 0, 1) := by decide +kernel
theorem dX7_back_71 : decode cX7_back 71 = .ok (.iaload, 1) := by decide +kernel
theorem dX7_back_72 : decode cX7_back 72 = .ok (.ireturn, 1) := by decide +kernel
theorem dX7_count_0 : decode cX7_count 0 = .ok (.iconst 0, 1) := by decide +kernel
theorem dX7_count_1 : decode cX7_count 1 = .ok (.istore_n 2, 1) := by decide +kernel
theorem dX7_count_2 : decode cX7_count 2 = .ok (.iload_n 1, 1) := by decide +kernel
theorem dX7_count_3 : decode cX7_count 3 = .ok (.tableswitch 150 0 11 #[61, 61, 61, 61, 74, 79, 116, 123, 128, 135, 140, 145], 61) := by decide +kernel
theorem dX7_count_64 : decode cX7_count 64 = .ok (.aload_n 0, 1) := by decide +kernel
theorem dX7_count_65 : decode cX7_count 65 = .ok (.iconst 0, 1) := by decide +kernel
theorem dX7_count_66 : decode cX7_count 66 = .ok (.aload_n 0, 1) := by decide +kernel
theorem dX7_count_67 : decode cX7_count 67 = .ok (.getfield 7, 3) := by decide +kernel
theorem dX7_count_70 : decode cX7_count 70 = .ok (.iconst 0, 1) := by decide +kernel
theorem dX7_count_71 : decode cX7_count 71 = .ok (.iaload, 1) := by decide +kernel
theorem dX7_count_72 : decode cX7_count 72 = .ok (.iload_n 1, 1) := by decide +kernel
theorem dX7_count_73 : decode cX7_count 73 = .ok (.invokevirtual 96, 3) := by decide +kernel
theorem dX7_count_76 : decode cX7_count 76 = .ok (.ireturn, 1) := by decide +kernel
theorem dX7_count_77 : decode cX7_count 77 = .ok (.aload_n 0, 1) := by decide +kernel
theorem dX7_count_78 : decode cX7_count 78 = .ok (.invokevirtual 106, 3) := by decide +kernel
theorem dX7_count_81 : decode cX7_count 81 = .ok (.ireturn, 1) := by decide +kernel
theorem dX7_count_82 : decode cX7_count 82 = .ok (.iconst 0, 1) := by decide +kernel
theorem dX7_count_83 : decode cX7_count 83 = .ok (.istore_n 3, 1) := by decide +kernel
theorem dX7_count_84 : decode cX7_count 84 = .ok (.iload_n 3, 1) := by decide +kernel
theorem dX7_count_85 : decode cX7_count 85 = .ok (.aload_n 0, 1) := by decide +kernel
theorem dX7_count_86 : decode cX7_count 86 = .ok (.invokevirtual 106, 3) := by decide +kernel
theorem dX7_count_89 : decode cX7_count 89 = .ok (.if_icmp .ge 28, 3) := by decide +kernel
theorem dX7_count_92 : decode cX7_count 92 = .ok (.aload_n 0, 1) := by decide +kernel
theorem dX7_count_93 : decode cX7_count 93 = .ok (.iload_n 3, 1) := by decide +kernel
theorem dX7_count_94 : decode cX7_count 94 = .ok (.invokevirtual 116, 3) := by decide +kernel
theorem dX7_count_97 : decode cX7_count 97 = .ok (.iload_n 2, 1) := by decide +kernel
theorem dX7_count_98 : decode cX7_count 98 = .ok (.if_icmp .le 11, 3) := by decide +kernel
theorem dX7_count_101 : decode cX7_count 101 = .ok (.aload_n 0, 1) := by decide +kernel
theorem dX7_count_102 : decode cX7_count 102 = .ok (.iload_n 3, 1) := by decide +kernel
theorem dX7_count_103 : decode cX7_count 103 = .ok (.invokevirtual 116, 3) := by decide +kernel
theorem dX7_count_106 : decode cX7_count 106 = .ok (.goto 4, 3) := by decide +kernel
theorem dX7_count_109 : decode cX7_count 109 = .ok (.iload_n 2, 1) := by decide +kernel
theorem dX7_count_110 : decode cX7_count 110 = .ok (.istore_n 2, 1) := by decide +kernel
theorem dX7_count_111 : decode cX7_count 111 = .ok (.iinc 3 1, 3) := by decide +kernel
theorem dX7_count_114 : decode cX7_count 114 = .ok (.goto (-30), 3) := by decide +kernel
theorem dX7_count_117 : decode cX7_count 117 = .ok (.iload_n 2, 1) := by decide +kernel
theorem dX7_count_118 : decode cX7_count 118 = .ok (.ireturn, 1) := by decide +kernel
theorem dX7_count_119 : decode cX7_count 119 = .ok (.aload_n 0, 1) := by decide +kernel
theorem dX7_count_120 : decode cX7_count 120 = .ok (.getfield 7, 3) := by decide +kernel
theorem dX7_count_123 : decode cX7_count 123 = .ok (.iconst 1, 1) := by decide +kernel
theorem dX7_count_124 : decode cX7_count 124 = .ok (.iaload, 1) := by decide +kernel
theorem dX7_count_125 : decode cX7_count 125 = .ok (.ireturn, 1) := by decide +kernel
theorem dX7_count_126 : decode cX7_count 126 = .ok (.aload_n 0, 1) := by decide +kernel
theorem dX7_count_127 : decode cX7_count 127 = .ok (.invokevirtual 122, 3) := by decide +kernel
theorem dX7_count_130 : decode cX7_count 130 = .ok (.ireturn, 1) := by decide +kernel
theorem dX7_count_131 : decode cX7_count 131 = .ok (.aload_n 0, 1) := by decide +kernel
theorem dX7_count_132 : decode cX7_count 132 = .ok (.getfield 7, 3) := by decide +kernel
theorem dX7_count_135 : decode cX7_count 135 = .ok (.iconst 2, 1) := by decide +kernel
theorem dX7_count_136 : decode cX7_count 136 = .ok (.iaload, 1) := by decide +kernel
theorem dX7_count_137 : decode cX7_count 137 = .ok (.ireturn, 1) := by decide +kernel
theorem dX7_count_138 : decode cX7_count 138 = .ok (.aload_n 0, 1) := by decide +kernel
theorem dX7_count_139 : decode cX7_count 139 = .ok (.getfield 65, 3) := by decide +kernel
theorem dX7_count_142 : decode cX7_count 142 = .ok (.ireturn, 1) := by decide +kernel
theorem dX7_count_143 : decode cX7_count 143 = .ok (.aload_n 0, 1) := by decide +kernel
theorem dX7_count_144 : decode cX7_count 144 = .ok (.getfield 76, 3) := by decide +kernel
theorem dX7_count_147 : decode cX7_count 147 = .ok (.ireturn, 1) := by decide +kernel
theorem dX7_count_148 : decode cX7_count 148 = .ok (.aload_n 0, 1) := by decide +kernel
theorem dX7_count_149 : decode cX7_count 149 = .ok (.getfield 61, 3) := by decide +kernel
theorem dX7_count_152 : decode cX7_count 152 = .ok (.ireturn, 1) := by decide +kernel
theorem dX7_count_153 : decode cX7_count 153 = .ok (.iconst (-1), 1) := by decide +kernel
theorem dX7_count_154 : decode cX7_count 154 = .ok (.ireturn, 1) := by decide +kernel
theorem dX7_digest_0 : decode cX7_digest 0 = .ok (.ldc2_w 128, 3) := by decide +kernel
theorem dX7_digest_3 : decode cX7_digest 3 = .ok (.lstore_n 1, 1) := by decide +kernel
theorem dX7_digest_4 : decode cX7_digest 4 = .ok (.iconst 0, 1) := by decide +kernel
theorem dX7_digest_5 : decode cX7_digest 5 = .ok (.istore_n 3, 1) := by decide +kernel
theorem dX7_digest_6 : decode cX7_digest 6 = .ok (.iload_n 3, 1) := by decide +kernel
theorem dX7_digest_7 : decode cX7_digest 7 = .ok (.aload_n 0, 1) := by decide +kernel
theorem dX7_digest_8 : decode cX7_digest 8 = .ok (.getfield 7, 3) := by decide +kernel
theorem dX7_digest_11 : decode cX7_digest 11 = .ok (.iconst 0, 1) := by decide +kernel
theorem dX7_digest_12 : decode cX7_digest 12 = .ok (.iaload, 1) := by decide +kernel
theorem dX7_digest_13 : decode cX7_digest 13 = .ok (.if_icmp .ge 22, 3) := by decide +kernel
theorem dX7_digest_16 : decode cX7_digest 16 = .ok (.ldc2_w 130, 3) := by decide +kernel
theorem dX7_digest_19 : decode cX7_digest 19 = .ok (.lload_n 1, 1) := by decide +kernel
theorem dX7_digest_20 : decode cX7_digest 20 = .ok (.lmul, 1) := by decide +kernel
theorem dX7_digest_21 : decode cX7_digest 21 = .ok (.aload_n 0, 1) := by decide +kernel
theorem dX7_digest_22 : decode cX7_digest 22 = .ok (.iload_n 3, 1) := by decide +kernel
theorem dX7_digest_23 : decode cX7_digest 23 = .ok (.invokevirtual 89, 3) := by decide +kernel
theorem dX7_digest_26 : decode cX7_digest 26 = .ok (.i2l, 1) := by decide +kernel
theorem dX7_digest_27 : decode cX7_digest 27 = .ok (.ladd, 1) := by decide +kernel
theorem dX7_digest_28 : decode cX7_digest 28 = .ok (.lstore_n 1, 1) := by decide +kernel
theorem dX7_digest_29 : decode cX7_digest 29 = .ok (.iinc 3 1, 3) := by decide +kernel
theorem dX7_digest_32 : decode cX7_digest 32 = .ok (.goto (-26), 3) := by decide +kernel
theorem dX7_digest_35 : decode cX7_digest 35 = .ok (.iconst 0, 1) := by decide +kernel
theorem dX7_digest_36 : decode cX7_digest 36 = .ok (.istore_n 3, 1) := by decide +kernel
theorem dX7_digest_37 : decode cX7_digest 37 = .ok (.iload_n 3, 1) := by decide +kernel
theorem dX7_digest_38 : decode cX7_digest 38 = .ok (.aload_n 0, 1) := by decide +kernel
theorem dX7_digest_39 : decode cX7_digest 39 = .ok (.getfield 7, 3) := by decide +kernel
theorem dX7_digest_42 : decode cX7_digest 42 = .ok (.iconst 1, 1) := by decide +kernel
theorem dX7_digest_43 : decode cX7_digest 43 = .ok (.iaload, 1) := by decide +kernel
theorem dX7_digest_44 : decode cX7_digest 44 = .ok (.if_icmp .ge 27, 3) := by decide +kernel
theorem dX7_digest_47 : decode cX7_digest 47 = .ok (.ldc2_w 130, 3) := by decide +kernel
theorem dX7_digest_50 : decode cX7_digest 50 = .ok (.lload_n 1, 1) := by decide +kernel
theorem dX7_digest_51 : decode cX7_digest 51 = .ok (.lmul, 1) := by decide +kernel
theorem dX7_digest_52 : decode cX7_digest 52 = .ok (.aload_n 0, 1) := by decide +kernel
theorem dX7_digest_53 : decode cX7_digest 53 = .ok (.getfield 7, 3) := by decide +kernel
theorem dX7_digest_56 : decode cX7_digest 56 = .ok (.sipush 259, 3) := by decide +kernel
theorem dX7_digest_59 : decode cX7_digest 59 = .ok (.iload_n 3, 1) := by decide +kernel
theorem dX7_digest_60 : decode cX7_digest 60 = .ok (.iadd, 1) := by decide +kernel
theorem dX7_digest_61 : decode cX7_digest 61 = .ok (.iaload, 1) := by decide +kernel
theorem dX7_digest_62 : decode cX7_digest 62 = .ok (.i2l, 1) := by decide +kernel
theorem dX7_digest_63 : decode cX7_digest 63 = .ok (.ladd, 1) := by decide +kernel
theorem dX7_digest_64 : decode cX7_digest 64 = .ok (.lstore_n 1, 1) := by decide +kernel
theorem dX7_digest_65 : decode cX7_digest 65 = .ok (.iinc 3 1, 3) := by decide +kernel
theorem dX7_digest_68 : decode cX7_digest 68 = .ok (.goto (-31), 3) := by decide +kernel
theorem dX7_digest_71 : decode cX7_digest 71 = .ok (.iconst 0, 1) := by decide +kernel
theorem dX7_digest_72 : decode cX7_digest 72 = .ok (.istore_n 3, 1) := by decide +kernel
theorem dX7_digest_73 : decode cX7_digest 73 = .ok (.iload_n 3, 1) := by decide +kernel
theorem dX7_digest_74 : decode cX7_digest 74 = .ok (.bipush 26, 2) := by decide +kernel
theorem dX7_digest_76 : decode cX7_digest 76 = .ok (.if_icmp .ge 53, 3) := by decide +kernel
theorem dX7_digest_79 : decode cX7_digest 79 = .ok (.aload_n 0, 1) := by decide +kernel
theorem dX7_digest_80 : decode cX7_digest 80 = .ok (.getfield 7, 3) := by decide +kernel
theorem dX7_digest_83 : decode cX7_digest 83 = .ok (.sipush 515, 3) := by decide +kernel
theorem dX7_digest_86 : decode cX7_digest 86 = .ok (.iload_n 3, 1) := by decide +kernel
theorem dX7_digest_87 : decode cX7_digest 87 = .ok (.iadd, 1) := by decide +kernel
theorem dX7_digest_88 : decode cX7_digest 88 = .ok (.iaload, 1) := by decide +kernel
theorem dX7_digest_89 : decode cX7_digest 89 = .ok (.ifCond .lt 34, 3) := by decide +kernel
theorem dX7_digest_92 : decode cX7_digest 92 = .ok (.ldc2_w 130, 3) := by decide +kernel
theorem dX7_digest_95 : decode cX7_digest 95 = .ok (.lload_n 1, 1) := by decide +kernel
theorem dX7_digest_96 : decode cX7_digest 96 = .ok (.lmul, 1) := by decide +kernel
theorem dX7_digest_97 : decode cX7_digest 97 = .ok (.ldc2_w 132, 3) := by decide +kernel
theorem dX7_digest_100 : decode cX7_digest 100 = .ok (.ladd, 1) := by decide +kernel
theorem dX7_digest_101 : decode cX7_digest 101 = .ok (.iload_n 3, 1) := by decide +kernel
theorem dX7_digest_102 : decode cX7_digest 102 = .ok (.i2l, 1) := by decide +kernel
theorem dX7_digest_103 : decode cX7_digest 103 = .ok (.ladd, 1) := by decide +kernel
theorem dX7_digest_104 : decode cX7_digest 104 = .ok (.lstore_n 1, 1) := by decide +kernel
theorem dX7_digest_105 : decode cX7_digest 105 = .ok (.ldc2_w 130, 3) := by decide +kernel
theorem dX7_digest_108 : decode cX7_digest 108 = .ok (.lload_n 1, 1) := by decide +kernel
theorem dX7_digest_109 : decode cX7_digest 109 = .ok (.lmul, 1) := by decide +kernel
theorem dX7_digest_110 : decode cX7_digest 110 = .ok (.aload_n 0, 1) := by decide +kernel
theorem dX7_digest_111 : decode cX7_digest 111 = .ok (.getfield 7, 3) := by decide +kernel
theorem dX7_digest_114 : decode cX7_digest 114 = .ok (.sipush 515, 3) := by decide +kernel
theorem dX7_digest_117 : decode cX7_digest 117 = .ok (.iload_n 3, 1) := by decide +kernel
theorem dX7_digest_118 : decode cX7_digest 118 = .ok (.iadd, 1) := by decide +kernel
theorem dX7_digest_119 : decode cX7_digest 119 = .ok (.iaload, 1) := by decide +kernel
theorem dX7_digest_120 : decode cX7_digest 120 = .ok (.i2l, 1) := by decide +kernel
theorem dX7_digest_121 : decode cX7_digest 121 = .ok (.ladd, 1) := by decide +kernel
theorem dX7_digest_122 : decode cX7_digest 122 = .ok (.lstore_n 1, 1) := by decide +kernel
theorem dX7_digest_123 : decode cX7_digest 123 = .ok (.iinc 3 1, 3) := by decide +kernel
theorem dX7_digest_126 : decode cX7_digest 126 = .ok (.goto (-53), 3) := by decide +kernel
theorem dX7_digest_129 : decode cX7_digest 129 = .ok (.lload_n 1, 1) := by decide +kernel
theorem dX7_digest_130 : decode cX7_digest 130 = .ok (.lreturn, 1) := by decide +kernel
