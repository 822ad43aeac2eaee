theorem dX0_init_0 : decode cX0_init 0 = .ok (.aload_n 0, 1) := by decide +kernel
theorem dX0_init_1 : decode cX0_init 1 = .ok (.invokespecial 3, 3) := by decide +kernel
theorem dX0_init_4 : decode cX0_init 4 = .ok (.aload_n 0, 1) := by decide +kernel
theorem dX0_init_5 : decode cX0_init 5 = .ok (.new 9, 3) := by decide +kernel
theorem dX0_init_8 : decode cX0_init 8 = .ok (.dup, 1) := by decide +kernel
theorem dX0_init_9 : decode cX0_init 9 = .ok (.bipush 24, 2) := by decide +kernel
theorem dX0_init_11 : decode cX0_init 11 = .ok (.invokespecial 11, 3) := by decide +kernel
theorem dX0_init_14 : decode cX0_init 14 = .ok (.putfield 14, 3) := by decide +kernel
theorem dX0_init_17 : decode cX0_init 17 = .ok (.return_, 1) := by decide +kernel
theorem dX0_takesOver_0 : decode cX0_takesOver 0 = .ok (.aload_n 0, 1) := by decide +kernel
theorem dX0_takesOver_1 : decode cX0_takesOver 1 = .ok (.iload_n 1, 1) := by decide +kernel
theorem dX0_takesOver_2 : decode cX0_takesOver 2 = .ok (.putfield 20, 3) := by decide +kernel
theorem dX0_takesOver_5 : decode cX0_takesOver 5 = .ok (.aload_n 0, 1) := by decide +kernel
theorem dX0_takesOver_6 : decode cX0_takesOver 6 = .ok (.iload_n 2, 1) := by decide +kernel
theorem dX0_takesOver_7 : decode cX0_takesOver 7 = .ok (.putfield 24, 3) := by decide +kernel
theorem dX0_takesOver_10 : decode cX0_takesOver 10 = .ok (.aload_n 0, 1) := by decide +kernel
theorem dX0_takesOver_11 : decode cX0_takesOver 11 = .ok (.getfield 14, 3) := by decide +kernel
theorem dX0_takesOver_14 : decode cX0_takesOver 14 = .ok (.aload_n 3, 1) := by decide +kernel
theorem dX0_takesOver_15 : decode cX0_takesOver 15 = .ok (.invokevirtual 27, 3) := by decide +kernel
theorem dX0_takesOver_18 : decode cX0_takesOver 18 = .ok (.return_, 1) := by decide +kernel
theorem dX0_beginsBehind_0 : decode cX0_beginsBehind 0 = .ok (.aload_n 0, 1) := by decide +kernel
theorem dX0_beginsBehind_1 : decode cX0_beginsBehind 1 = .ok (.getfield 20, 3) := by decide +kernel
theorem dX0_beginsBehind_4 : decode cX0_beginsBehind 4 = .ok (.iload_n 1, 1) := by decide +kernel
theorem dX0_beginsBehind_5 : decode cX0_beginsBehind 5 = .ok (.if_icmp .le 7, 3) := by decide +kernel
theorem dX0_beginsBehind_8 : decode cX0_beginsBehind 8 = .ok (.iconst 1, 1) := by decide +kernel
theorem dX0_beginsBehind_9 : decode cX0_beginsBehind 9 = .ok (.goto 4, 3) := by decide +kernel
theorem dX0_beginsBehind_12 : decode cX0_beginsBehind 12 = .ok (.iconst 0, 1) := by decide +kernel
theorem dX0_beginsBehind_13 : decode cX0_beginsBehind 13 = .ok (.ireturn, 1) := by decide +kernel
theorem dX0_meets_0 : decode cX0_meets 0 = .ok (.aload_n 0, 1) := by decide +kernel
theorem dX0_meets_1 : decode cX0_meets 1 = .ok (.getfield 20, 3) := by decide +kernel
theorem dX0_meets_4 : decode cX0_meets 4 = .ok (.iload_n 1, 1) := by decide +kernel
theorem dX0_meets_5 : decode cX0_meets 5 = .ok (.iload_n 2, 1) := by decide +kernel
theorem dX0_meets_6 : decode cX0_meets 6 = .ok (.iadd, 1) := by decide +kernel
theorem dX0_meets_7 : decode cX0_meets 7 = .ok (.if_icmp .gt 20, 3) := by decide +kernel
theorem dX0_meets_10 : decode cX0_meets 10 = .ok (.iload_n 1, 1) := by decide +kernel
theorem dX0_meets_11 : decode cX0_meets 11 = .ok (.aload_n 0, 1) := by decide +kernel
theorem dX0_meets_12 : decode cX0_meets 12 = .ok (.getfield 20, 3) := by decide +kernel
theorem dX0_meets_15 : decode cX0_meets 15 = .ok (.aload_n 0, 1) := by decide +kernel
theorem dX0_meets_16 : decode cX0_meets 16 = .ok (.getfield 24, 3) := by decide +kernel
theorem dX0_meets_19 : decode cX0_meets 19 = .ok (.iadd, 1) := by decide +kernel
theorem dX0_meets_20 : decode cX0_meets 20 = .ok (.if_icmp .gt 7, 3) := by decide +kernel
theorem dX0_meets_23 : decode cX0_meets 23 = .ok (.iconst 1, 1) := by decide +kernel
theorem dX0_meets_24 : decode cX0_meets 24 = .ok (.goto 4, 3) := by decide +kernel
theorem dX0_meets_27 : decode cX0_meets 27 = .ok (.iconst 0, 1) := by decide +kernel
theorem dX0_meets_28 : decode cX0_meets 28 = .ok (.ireturn, 1) := by decide +kernel
theorem dX0_bytesMore_0 : decode cX0_bytesMore 0 = .ok (.aload_n 0, 1) := by decide +kernel
theorem dX0_bytesMore_1 : decode cX0_bytesMore 1 = .ok (.getfield 14, 3) := by decide +kernel
theorem dX0_bytesMore_4 : decode cX0_bytesMore 4 = .ok (.invokevirtual 31, 3) := by decide +kernel
theorem dX0_bytesMore_7 : decode cX0_bytesMore 7 = .ok (.aload_n 0, 1) := by decide +kernel
theorem dX0_bytesMore_8 : decode cX0_bytesMore 8 = .ok (.getfield 24, 3) := by decide +kernel
theorem dX0_bytesMore_11 : decode cX0_bytesMore 11 = .ok (.isub, 1) := by decide +kernel
theorem dX0_bytesMore_12 : decode cX0_bytesMore 12 = .ok (.ireturn, 1) := by decide +kernel
theorem dX1_init_0 : decode cX1_init 0 = .ok (.aload_n 0, 1) := by decide +kernel
theorem dX1_init_1 : decode cX1_init 1 = .ok (.invokespecial 3, 3) := by decide +kernel
theorem dX1_init_4 : decode cX1_init 4 = .ok (.aload_n 0, 1) := by decide +kernel
theorem dX1_init_5 : decode cX1_init 5 = .ok (.bipush 8, 2) := by decide +kernel
theorem dX1_init_7 : decode cX1_init 7 = .ok (.anewarray 9, 3) := by decide +kernel
theorem dX1_init_10 : decode cX1_init 10 = .ok (.putfield 11, 3) := by decide +kernel
theorem dX1_init_13 : decode cX1_init 13 = .ok (.iconst 0, 1) := by decide +kernel
theorem dX1_init_14 : decode cX1_init 14 = .ok (.istore_n 1, 1) := by decide +kernel
theorem dX1_init_15 : decode cX1_init 15 = .ok (.iload_n 1, 1) := by decide +kernel
theorem dX1_init_16 : decode cX1_init 16 = .ok (.aload_n 0, 1) := by decide +kernel
theorem dX1_init_17 : decode cX1_init 17 = .ok (.getfield 11, 3) := by decide +kernel
theorem dX1_init_20 : decode cX1_init 20 = .ok (.arraylength, 1) := by decide +kernel
theorem dX1_init_21 : decode cX1_init 21 = .ok (.if_icmp .ge 24, 3) := by decide +kernel
theorem dX1_init_24 : decode cX1_init 24 = .ok (.aload_n 0, 1) := by decide +kernel
theorem dX1_init_25 : decode cX1_init 25 = .ok (.getfield 11, 3) := by decide +kernel
theorem dX1_init_28 : decode cX1_init 28 = .ok (.iload_n 1, 1) := by decide +kernel
theorem dX1_init_29 : decode cX1_init 29 = .ok (.new 9, 3) := by decide +kernel
theorem dX1_init_32 : decode cX1_init 32 = .ok (.dup, 1) := by decide +kernel
theorem dX1_init_33 : decode cX1_init 33 = .ok (.bipush 120, 2) := by decide +kernel
theorem dX1_init_35 : decode cX1_init 35 = .ok (.invokespecial 17, 3) := by decide +kernel
theorem dX1_init_38 : decode cX1_init 38 = .ok (.aastore, 1) := by decide +kernel
theorem dX1_init_39 : decode cX1_init 39 = .ok (.iinc 1 1, 3) := by decide +kernel
theorem dX1_init_42 : decode cX1_init 42 = .ok (.goto (-27), 3) := by decide +kernel
theorem dX1_init_45 : decode cX1_init 45 = .ok (.return_, 1) := by decide +kernel
theorem dX1_size_0 : decode cX1_size 0 = .ok (.aload_n 0, 1) := by decide +kernel
theorem dX1_size_1 : decode cX1_size 1 = .ok (.getfield 20, 3) := by decide +kernel
theorem dX1_size_4 : decode cX1_size 4 = .ok (.ireturn, 1) := by decide +kernel
theorem dX1_forgets_0 : decode cX1_forgets 0 = .ok (.aload_n 0, 1) := by decide +kernel
theorem dX1_forgets_1 : decode cX1_forgets 1 = .ok (.iconst 0, 1) := by decide +kernel
theorem dX1_forgets_2 : decode cX1_forgets 2 = .ok (.putfield 20, 3) := by decide +kernel
theorem dX1_forgets_5 : decode cX1_forgets 5 = .ok (.return_, 1) := by decide +kernel
theorem dX1_latestPage_0 : decode cX1_latestPage 0 = .ok (.aload_n 0, 1) := by decide +kernel
theorem dX1_latestPage_1 : decode cX1_latestPage 1 = .ok (.getfield 24, 3) := by decide +kernel
theorem dX1_latestPage_4 : decode cX1_latestPage 4 = .ok (.ifCond .lt 27, 3) := by decide +kernel
theorem dX1_latestPage_7 : decode cX1_latestPage 7 = .ok (.aload_n 0, 1) := by decide +kernel
theorem dX1_latestPage_8 : decode cX1_latestPage 8 = .ok (.getfield 24, 3) := by decide +kernel
theorem dX1_latestPage_11 : decode cX1_latestPage 11 = .ok (.aload_n 0, 1) := by decide +kernel
theorem dX1_latestPage_12 : decode cX1_latestPage 12 = .ok (.getfield 11, 3) := by decide +kernel
theorem dX1_latestPage_15 : decode cX1_latestPage 15 = .ok (.arraylength, 1) := by decide +kernel
theorem dX1_latestPage_16 : decode cX1_latestPage 16 = .ok (.if_icmp .ge 15, 3) := by decide +kernel
theorem dX1_latestPage_19 : decode cX1_latestPage 19 = .ok (.aload_n 0, 1) := by decide +kernel
theorem dX1_latestPage_20 : decode cX1_latestPage 20 = .ok (.getfield 11, 3) := by decide +kernel
theorem dX1_latestPage_23 : decode cX1_latestPage 23 = .ok (.aload_n 0, 1) := by decide +kernel
theorem dX1_latestPage_24 : decode cX1_latestPage 24 = .ok (.getfield 24, 3) := by decide +kernel
theorem dX1_latestPage_27 : decode cX1_latestPage 27 = .ok (.aaload, 1) := by decide +kernel
theorem dX1_latestPage_28 : decode cX1_latestPage 28 = .ok (.goto 4, 3) := by decide +kernel
theorem dX1_latestPage_31 : decode cX1_latestPage 31 = .ok (.aconst_null, 1) := by decide +kernel
theorem dX1_latestPage_32 : decode cX1_latestPage 32 = .ok (.areturn, 1) := by decide +kernel
theorem dX1_remembers_0 : decode cX1_remembers 0 = .ok (.aload_n 0, 1) := by decide +kernel
theorem dX1_remembers_1 : decode cX1_remembers 1 = .ok (.aload_n 0, 1) := by decide +kernel
theorem dX1_remembers_2 : decode cX1_remembers 2 = .ok (.getfield 24, 3) := by decide +kernel
theorem dX1_remembers_5 : decode cX1_remembers 5 = .ok (.iconst 1, 1) := by decide +kernel
theorem dX1_remembers_6 : decode cX1_remembers 6 = .ok (.iadd, 1) := by decide +kernel
theorem dX1_remembers_7 : decode cX1_remembers 7 = .ok (.bipush 8, 2) := by decide +kernel
theorem dX1_remembers_9 : decode cX1_remembers 9 = .ok (.if_icmp .ge 12, 3) := by decide +kernel
theorem dX1_remembers_12 : decode cX1_remembers 12 = .ok (.aload_n 0, 1) := by decide +kernel
theorem dX1_remembers_13 : decode cX1_remembers 13 = .ok (.getfield 24, 3) := by decide +kernel
theorem dX1_remembers_16 : decode cX1_remembers 16 = .ok (.iconst 1, 1) := by decide +kernel
theorem dX1_remembers_17 : decode cX1_remembers 17 = .ok (.iadd, 1) := by decide +kernel
theorem dX1_remembers_18 : decode cX1_remembers 18 = .ok (.goto 4, 3) := by decide +kernel
theorem dX1_remembers_21 : decode cX1_remembers 21 = .ok (.iconst 0, 1) := by decide +kernel
theorem dX1_remembers_22 : decode cX1_remembers 22 = .ok (.putfield 24, 3) := by decide +kernel
theorem dX1_remembers_25 : decode cX1_remembers 25 = .ok (.aload_n 0, 1) := by decide +kernel
theorem dX1_remembers_26 : decode cX1_remembers 26 = .ok (.aload_n 0, 1) := by decide +kernel
theorem dX1_remembers_27 : decode cX1_remembers 27 = .ok (.getfield 20, 3) := by decide +kernel
theorem dX1_remembers_30 : decode cX1_remembers 30 = .ok (.iconst 1, 1) := by decide +kernel
theorem dX1_remembers_31 : decode cX1_remembers 31 = .ok (.iadd, 1) := by decide +kernel
theorem dX1_remembers_32 : decode cX1_remembers 32 = .ok (.bipush 8, 2) := by decide +kernel
theorem dX1_remembers_34 : decode cX1_remembers 34 = .ok (.invokestatic 27, 3) := by decide +kernel
theorem dX1_remembers_37 : decode cX1_remembers 37 = .ok (.putfield 20, 3) := by decide +kernel
theorem dX1_remembers_40 : decode cX1_remembers 40 = .ok (.aload_n 0, 1) := by decide +kernel
theorem dX1_remembers_41 : decode cX1_remembers 41 = .ok (.invokevirtual 33, 3) := by decide +kernel
theorem dX1_remembers_44 : decode cX1_remembers 44 = .ok (.astore_n 2, 1) := by decide +kernel
theorem dX1_remembers_45 : decode cX1_remembers 45 = .ok (.aload_n 2, 1) := by decide +kernel
theorem dX1_remembers_46 : decode cX1_remembers 46 = .ok (.ifnull 8, 3) := by decide +kernel
theorem dX1_remembers_49 : decode cX1_remembers 49 = .ok (.aload_n 2, 1) := by decide +kernel
theorem dX1_remembers_50 : decode cX1_remembers 50 = .ok (.aload_n 1, 1) := by decide +kernel
theorem dX1_remembers_51 : decode cX1_remembers 51 = .ok (.invokevirtual 37, 3) := by decide +kernel
theorem dX1_remembers_54 : decode cX1_remembers 54 = .ok (.return_, 1) := by decide +kernel
theorem dX1_restores_0 : decode cX1_restores 0 = .ok (.aload_n 0, 1) := by decide +kernel
theorem dX1_restores_1 : decode cX1_restores 1 = .ok (.invokevirtual 33, 3) := by decide +kernel
theorem dX1_restores_4 : decode cX1_restores 4 = .ok (.astore_n 2, 1) := by decide +kernel
theorem dX1_restores_5 : decode cX1_restores 5 = .ok (.aload_n 0, 1) := by decide +kernel
theorem dX1_restores_6 : decode cX1_restores 6 = .ok (.getfield 20, 3) := by decide +kernel
theorem dX1_restores_9 : decode cX1_restores 9 = .ok (.ifCond .eq 7, 3) := by decide +kernel
theorem dX1_restores_12 : decode cX1_restores 12 = .ok (.aload_n 2, 1) := by decide +kernel
theorem dX1_restores_13 : decode cX1_restores 13 = .ok (.ifnonnull 4, 3) := by decide +kernel
theorem dX1_restores_16 : decode cX1_restores 16 = .ok (.return_, 1) := by decide +kernel
theorem dX1_restores_17 : decode cX1_restores 17 = .ok (.aload_n 1, 1) := by decide +kernel
theorem dX1_restores_18 : decode cX1_restores 18 = .ok (.aload_n 2, 1) := by decide +kernel
theorem dX1_restores_19 : decode cX1_restores 19 = .ok (.invokevirtual 37, 3) := by decide +kernel
theorem dX1_restores_22 : decode cX1_restores 22 = .ok (.aload_n 0, 1) := by decide +kernel
theorem dX1_restores_23 : decode cX1_restores 23 = .ok (.aload_n 0, 1) := by decide +kernel
theorem dX1_restores_24 : decode cX1_restores 24 = .ok (.getfield 24, 3) := by decide +kernel
theorem dX1_restores_27 : decode cX1_restores 27 = .ok (.ifCond .le 12, 3) := by decide +kernel
theorem dX1_restores_30 : decode cX1_restores 30 = .ok (.aload_n 0, 1) := by decide +kernel
theorem dX1_restores_31 : decode cX1_restores 31 = .ok (.getfield 24, 3) := by decide +kernel
theorem dX1_restores_34 : decode cX1_restores 34 = .ok (.iconst 1, 1) := by decide +kernel
theorem dX1_restores_35 : decode cX1_restores 35 = .ok (.isub, 1) := by decide +kernel
theorem dX1_restores_36 : decode cX1_restores 36 = .ok (.goto 5, 3) := by decide +kernel
theorem dX1_restores_39 : decode cX1_restores 39 = .ok (.bipush 7, 2) := by decide +kernel
theorem dX1_restores_41 : decode cX1_restores 41 = .ok (.putfield 24, 3) := by decide +kernel
theorem dX1_restores_44 : decode cX1_restores 44 = .ok (.aload_n 0, 1) := by decide +kernel
theorem dX1_restores_45 : decode cX1_restores 45 = .ok (.dup, 1) := by decide +kernel
theorem dX1_restores_46 : decode cX1_restores 46 = .ok (.getfield 20, 3) := by decide +kernel
theorem dX1_restores_49 : decode cX1_restores 49 = .ok (.iconst 1, 1) := by decide +kernel
theorem dX1_restores_50 : decode cX1_restores 50 = .ok (.isub, 1) := by decide +kernel
theorem dX1_restores_51 : decode cX1_restores 51 = .ok (.putfield 20, 3) := by decide +kernel
theorem dX1_restores_54 : decode cX1_restores 54 = .ok (.return_, 1) := by decide +kernel
theorem dX3_init_0 : decode cX3_init 0 = .ok (.aload_n 0, 1) := by decide +kernel
theorem dX3_init_1 : decode cX3_init 1 = .ok (.invokespecial 1, 3) := by decide +kernel
theorem dX3_init_4 : decode cX3_init 4 = .ok (.aload_n 0, 1) := by decide +kernel
theorem dX3_init_5 : decode cX3_init 5 = .ok (.iload_n 1, 1) := by decide +kernel
theorem dX3_init_6 : decode cX3_init 6 = .ok (.iconst 0, 1) := by decide +kernel
theorem dX3_init_7 : decode cX3_init 7 = .ok (.invokestatic 7, 3) := by decide +kernel
theorem dX3_init_10 : decode cX3_init 10 = .ok (.newarray .int, 2) := by decide +kernel
theorem dX3_init_12 : decode cX3_init 12 = .ok (.putfield 13, 3) := by decide +kernel
theorem dX3_init_15 : decode cX3_init 15 = .ok (.return_, 1) := by decide +kernel
theorem dX3_size_0 : decode cX3_size 0 = .ok (.aload_n 0, 1) := by decide +kernel
theorem dX3_size_1 : decode cX3_size 1 = .ok (.getfield 19, 3) := by decide +kernel
theorem dX3_size_4 : decode cX3_size 4 = .ok (.ireturn, 1) := by decide +kernel
theorem dX3_get_0 : decode cX3_get 0 = .ok (.iload_n 1, 1) := by decide +kernel
theorem dX3_get_1 : decode cX3_get 1 = .ok (.ifCond .lt 29, 3) := by decide +kernel
theorem dX3_get_4 : decode cX3_get 4 = .ok (.iload_n 1, 1) := by decide +kernel
theorem dX3_get_5 : decode cX3_get 5 = .ok (.aload_n 0, 1) := by decide +kernel
theorem dX3_get_6 : decode cX3_get 6 = .ok (.getfield 19, 3) := by decide +kernel
theorem dX3_get_9 : decode cX3_get 9 = .ok (.if_icmp .ge 21, 3) := by decide +kernel
theorem dX3_get_12 : decode cX3_get 12 = .ok (.iload_n 1, 1) := by decide +kernel
theorem dX3_get_13 : decode cX3_get 13 = .ok (.aload_n 0, 1) := by decide +kernel
theorem dX3_get_14 : decode cX3_get 14 = .ok (.getfield 13, 3) := by decide +kernel
theorem dX3_get_17 : decode cX3_get 17 = .ok (.arraylength, 1) := by decide +kernel
theorem dX3_get_18 : decode cX3_get 18 = .ok (.if_icmp .ge 12, 3) := by decide +kernel
theorem dX3_get_21 : decode cX3_get 21 = .ok (.aload_n 0, 1) := by decide +kernel
theorem dX3_get_22 : decode cX3_get 22 = .ok (.getfield 13, 3) := by decide +kernel
theorem dX3_get_25 : decode cX3_get 25 = .ok (.iload_n 1, 1) := by decide +kernel
theorem dX3_get_26 : decode cX3_get 26 = .ok (.iaload, 1) := by decide +kernel
theorem dX3_get_27 : decode cX3_get 27 = .ok (.goto 4, 3) := by decide +kernel
theorem dX3_get_30 : decode cX3_get 30 = .ok (.iconst 0, 1) := by decide +kernel
theorem dX3_get_31 : decode cX3_get 31 = .ok (.ireturn, 1) := by decide +kernel
theorem dX3_set_0 : decode cX3_set 0 = .ok (.iload_n 1, 1) := by decide +kernel
theorem dX3_set_1 : decode cX3_set 1 = .ok (.ifCond .lt 27, 3) := by decide +kernel
theorem dX3_set_4 : decode cX3_set 4 = .ok (.iload_n 1, 1) := by decide +kernel
theorem dX3_set_5 : decode cX3_set 5 = .ok (.aload_n 0, 1) := by decide +kernel
theorem dX3_set_6 : decode cX3_set 6 = .ok (.getfield 19, 3) := by decide +kernel
theorem dX3_set_9 : decode cX3_set 9 = .ok (.if_icmp .ge 19, 3) := by decide +kernel
theorem dX3_set_12 : decode cX3_set 12 = .ok (.iload_n 1, 1) := by decide +kernel
theorem dX3_set_13 : decode cX3_set 13 = .ok (.aload_n 0, 1) := by decide +kernel
theorem dX3_set_14 : decode cX3_set 14 = .ok (.getfield 13, 3) := by decide +kernel
theorem dX3_set_17 : decode cX3_set 17 = .ok (.arraylength, 1) := by decide +kernel
theorem dX3_set_18 : decode cX3_set 18 = .ok (.if_icmp .ge 10, 3) := by decide +kernel
theorem dX3_set_21 : decode cX3_set 21 = .ok (.aload_n 0, 1) := by decide +kernel
theorem dX3_set_22 : decode cX3_set 22 = .ok (.getfield 13, 3) := by decide +kernel
theorem dX3_set_25 : decode cX3_set 25 = .ok (.iload_n 1, 1) := by decide +kernel
theorem dX3_set_26 : decode cX3_set 26 = .ok (.iload_n 2, 1) := by decide +kernel
theorem dX3_set_27 : decode cX3_set 27 = .ok (.iastore, 1) := by decide +kernel
theorem dX3_set_28 : decode cX3_set 28 = .ok (.return_, 1) := by decide +kernel
theorem dX3_add_0 : decode cX3_add 0 = .ok (.aload_n 0, 1) := by decide +kernel
theorem dX3_add_1 : decode cX3_add 1 = .ok (.getfield 19, 3) := by decide +kernel
theorem dX3_add_4 : decode cX3_add 4 = .ok (.ifCond .lt 35, 3) := by decide +kernel
theorem dX3_add_7 : decode cX3_add 7 = .ok (.aload_n 0, 1) := by decide +kernel
theorem dX3_add_8 : decode cX3_add 8 = .ok (.getfield 19, 3) := by decide +kernel
theorem dX3_add_11 : decode cX3_add 11 = .ok (.aload_n 0, 1) := by decide +kernel
theorem dX3_add_12 : decode cX3_add 12 = .ok (.getfield 13, 3) := by decide +kernel
theorem dX3_add_15 : decode cX3_add 15 = .ok (.arraylength, 1) := by decide +kernel
theorem dX3_add_16 : decode cX3_add 16 = .ok (.if_icmp .ge 23, 3) := by decide +kernel
theorem dX3_add_19 : decode cX3_add 19 = .ok (.aload_n 0, 1) := by decide +kernel
theorem dX3_add_20 : decode cX3_add 20 = .ok (.getfield 13, 3) := by decide +kernel
theorem dX3_add_23 : decode cX3_add 23 = .ok (.aload_n 0, 1) := by decide +kernel
theorem dX3_add_24 : decode cX3_add 24 = .ok (.getfield 19, 3) := by decide +kernel
theorem dX3_add_27 : decode cX3_add 27 = .ok (.iload_n 1, 1) := by decide +kernel
theorem dX3_add_28 : decode cX3_add 28 = .ok (.iastore, 1) := by decide +kernel
theorem dX3_add_29 : decode cX3_add 29 = .ok (.aload_n 0, 1) := by decide +kernel
theorem dX3_add_30 : decode cX3_add 30 = .ok (.dup, 1) := by decide +kernel
theorem dX3_add_31 : decode cX3_add 31 = .ok (.getfield 19, 3) := by decide +kernel
theorem dX3_add_34 : decode cX3_add 34 = .ok (.iconst 1, 1) := by decide +kernel
theorem dX3_add_35 : decode cX3_add 35 = .ok (.iadd, 1) := by decide +kernel
theorem dX3_add_36 : decode cX3_add 36 = .ok (.putfield 19, 3) := by decide +kernel
theorem dX3_add_39 : decode cX3_add 39 = .ok (.return_, 1) := by decide +kernel
theorem dX3_empties_0 : decode cX3_empties 0 = .ok (.aload_n 0, 1) := by decide +kernel
theorem dX3_empties_1 : decode cX3_empties 1 = .ok (.iconst 0, 1) := by decide +kernel
theorem dX3_empties_2 : decode cX3_empties 2 = .ok (.putfield 19, 3) := by decide +kernel
theorem dX3_empties_5 : decode cX3_empties 5 = .ok (.return_, 1) := by decide +kernel
theorem dX3_shortensTo_0 : decode cX3_shortensTo 0 = .ok (.iload_n 1, 1) := by decide +kernel
theorem dX3_shortensTo_1 : decode cX3_shortensTo 1 = .ok (.ifCond .lt 16, 3) := by decide +kernel
theorem dX3_shortensTo_4 : decode cX3_shortensTo 4 = .ok (.iload_n 1, 1) := by decide +kernel
theorem dX3_shortensTo_5 : decode cX3_shortensTo 5 = .ok (.aload_n 0, 1) := by decide +kernel
theorem dX3_shortensTo_6 : decode cX3_shortensTo 6 = .ok (.getfield 19, 3) := by decide +kernel
theorem dX3_shortensTo_9 : decode cX3_shortensTo 9 = .ok (.if_icmp .ge 8, 3) := by decide +kernel
theorem dX3_shortensTo_12 : decode cX3_shortensTo 12 = .ok (.aload_n 0, 1) := by decide +kernel
theorem dX3_shortensTo_13 : decode cX3_shortensTo 13 = .ok (.iload_n 1, 1) := by decide +kernel
theorem dX3_shortensTo_14 : decode cX3_shortensTo 14 = .ok (.putfield 19, 3) := by decide +kernel
theorem dX3_shortensTo_17 : decode cX3_shortensTo 17 = .ok (.return_, 1) := by decide +kernel
theorem dX3_copies_0 : decode cX3_copies 0 = .ok (.aload_n 0, 1) := by decide +kernel
theorem dX3_copies_1 : decode cX3_copies 1 = .ok (.iconst 0, 1) := by decide +kernel
theorem dX3_copies_2 : decode cX3_copies 2 = .ok (.putfield 19, 3) := by decide +kernel
theorem dX3_copies_5 : decode cX3_copies 5 = .ok (.iconst 0, 1) := by decide +kernel
theorem dX3_copies_6 : decode cX3_copies 6 = .ok (.istore_n 2, 1) := by decide +kernel
theorem dX3_copies_7 : decode cX3_copies 7 = .ok (.iload_n 2, 1) := by decide +kernel
theorem dX3_copies_8 : decode cX3_copies 8 = .ok (.aload_n 1, 1) := by decide +kernel
theorem dX3_copies_9 : decode cX3_copies 9 = .ok (.invokevirtual 23, 3) := by decide +kernel
theorem dX3_copies_12 : decode cX3_copies 12 = .ok (.if_icmp .ge 18, 3) := by decide +kernel
theorem dX3_copies_15 : decode cX3_copies 15 = .ok (.aload_n 0, 1) := by decide +kernel
theorem dX3_copies_16 : decode cX3_copies 16 = .ok (.aload_n 1, 1) := by decide +kernel
theorem dX3_copies_17 : decode cX3_copies 17 = .ok (.iload_n 2, 1) := by decide +kernel
theorem dX3_copies_18 : decode cX3_copies 18 = .ok (.invokevirtual 26, 3) := by decide +kernel
theorem dX3_copies_21 : decode cX3_copies 21 = .ok (.invokevirtual 30, 3) := by decide +kernel
theorem dX3_copies_24 : decode cX3_copies 24 = .ok (.iinc 2 1, 3) := by decide +kernel
theorem dX3_copies_27 : decode cX3_copies 27 = .ok (.goto (-20), 3) := by decide +kernel
theorem dX3_copies_30 : decode cX3_copies 30 = .ok (.return_, 1) := by decide +kernel
theorem dX3_opens_0 : decode cX3_opens 0 = .ok (.iload_n 1, 1) := by decide +kernel
theorem dX3_opens_1 : decode cX3_opens 1 = .ok (.ifCond .lt 29, 3) := by decide +kernel
theorem dX3_opens_4 : decode cX3_opens 4 = .ok (.iload_n 1, 1) := by decide +kernel
theorem dX3_opens_5 : decode cX3_opens 5 = .ok (.aload_n 0, 1) := by decide +kernel
theorem dX3_opens_6 : decode cX3_opens 6 = .ok (.getfield 19, 3) := by decide +kernel
theorem dX3_opens_9 : decode cX3_opens 9 = .ok (.if_icmp .gt 21, 3) := by decide +kernel
theorem dX3_opens_12 : decode cX3_opens 12 = .ok (.iload_n 2, 1) := by decide +kernel
theorem dX3_opens_13 : decode cX3_opens 13 = .ok (.ifCond .lt 17, 3) := by decide +kernel
theorem dX3_opens_16 : decode cX3_opens 16 = .ok (.iload_n 2, 1) := by decide +kernel
theorem dX3_opens_17 : decode cX3_opens 17 = .ok (.aload_n 0, 1) := by decide +kernel
theorem dX3_opens_18 : decode cX3_opens 18 = .ok (.getfield 13, 3) := by decide +kernel
theorem dX3_opens_21 : decode cX3_opens 21 = .ok (.arraylength, 1) := by decide +kernel
theorem dX3_opens_22 : decode cX3_opens 22 = .ok (.aload_n 0, 1) := by decide +kernel
theorem dX3_opens_23 : decode cX3_opens 23 = .ok (.getfield 19, 3) := by decide +kernel
theorem dX3_opens_26 : decode cX3_opens 26 = .ok (.isub, 1) := by decide +kernel
theorem dX3_opens_27 : decode cX3_opens 27 = .ok (.if_icmp .le 4, 3) := by decide +kernel
theorem dX3_opens_30 : decode cX3_opens 30 = .ok (.return_, 1) := by decide +kernel
theorem dX3_opens_31 : decode cX3_opens 31 = .ok (.aload_n 0, 1) := by decide +kernel
theorem dX3_opens_32 : decode cX3_opens 32 = .ok (.getfield 19, 3) := by decide +kernel
theorem dX3_opens_35 : decode cX3_opens 35 = .ok (.iconst 1, 1) := by decide +kernel
theorem dX3_opens_36 : decode cX3_opens 36 = .ok (.isub, 1) := by decide +kernel
theorem dX3_opens_37 : decode cX3_opens 37 = .ok (.istore_n 3, 1) := by decide +kernel
theorem dX3_opens_38 : decode cX3_opens 38 = .ok (.iload_n 3, 1) := by decide +kernel
theorem dX3_opens_39 : decode cX3_opens 39 = .ok (.iload_n 1, 1) := by decide +kernel
theorem dX3_opens_40 : decode cX3_opens 40 = .ok (.if_icmp .lt 23, 3) := by decide +kernel
theorem dX3_opens_43 : decode cX3_opens 43 = .ok (.aload_n 0, 1) := by decide +kernel
theorem dX3_opens_44 : decode cX3_opens 44 = .ok (.getfield 13, 3) := by decide +kernel
theorem dX3_opens_47 : decode cX3_opens 47 = .ok (.iload_n 3, 1) := by decide +kernel
theorem dX3_opens_48 : decode cX3_opens 48 = .ok (.iload_n 2, 1) := by decide +kernel
theorem dX3_opens_49 : decode cX3_opens 49 = .ok (.iadd, 1) := by decide +kernel
theorem dX3_opens_50 : decode cX3_opens 50 = .ok (.aload_n 0, 1) := by decide +kernel
theorem dX3_opens_51 : decode cX3_opens 51 = .ok (.getfield 13, 3) := by decide +kernel
theorem dX3_opens_54 : decode cX3_opens 54 = .ok (.iload_n 3, 1) := by decide +kernel
theorem dX3_opens_55 : decode cX3_opens 55 = .ok (.iaload, 1) := by decide +kernel
theorem dX3_opens_56 : decode cX3_opens 56 = .ok (.iastore, 1) := by decide +kernel
theorem dX3_opens_57 : decode cX3_opens 57 = .ok (.iinc 3 (-1), 3) := by decide +kernel
theorem dX3_opens_60 : decode cX3_opens 60 = .ok (.goto (-22), 3) := by decide +kernel
theorem dX3_opens_63 : decode cX3_opens 63 = .ok (.aload_n 0, 1) := by decide +kernel
theorem dX3_opens_64 : decode cX3_opens 64 = .ok (.dup, 1) := by decide +kernel
theorem dX3_opens_65 : decode cX3_opens 65 = .ok (.getfield 19, 3) := by decide +kernel
theorem dX3_opens_68 : decode cX3_opens 68 = .ok (.iload_n 2, 1) := by decide +kernel
theorem dX3_opens_69 : decode cX3_opens 69 = .ok (.iadd, 1) := by decide +kernel
theorem dX3_opens_70 : decode cX3_opens 70 = .ok (.putfield 19, 3) := by decide +kernel
theorem dX3_opens_73 : decode cX3_opens 73 = .ok (.return_, 1) := by decide +kernel
theorem dX3_closes_0 : decode cX3_closes 0 = .ok (.iload_n 1, 1) := by decide +kernel
theorem dX3_closes_1 : decode cX3_closes 1 = .ok (.ifCond .lt 25, 3) := by decide +kernel
theorem dX3_closes_4 : decode cX3_closes 4 = .ok (.iload_n 1, 1) := by decide +kernel
theorem dX3_closes_5 : decode cX3_closes 5 = .ok (.aload_n 0, 1) := by decide +kernel
theorem dX3_closes_6 : decode cX3_closes 6 = .ok (.getfield 19, 3) := by decide +kernel
theorem dX3_closes_9 : decode cX3_closes 9 = .ok (.if_icmp .gt 17, 3) := by decide +kernel
theorem dX3_closes_12 : decode cX3_closes 12 = .ok (.iload_n 2, 1) := by decide +kernel
theorem dX3_closes_13 : decode cX3_closes 13 = .ok (.ifCond .lt 13, 3) := by decide +kernel
theorem dX3_closes_16 : decode cX3_closes 16 = .ok (.iload_n 2, 1) := by decide +kernel
theorem dX3_closes_17 : decode cX3_closes 17 = .ok (.aload_n 0, 1) := by decide +kernel
theorem dX3_closes_18 : decode cX3_closes 18 = .ok (.getfield 19, 3) := by decide +kernel
theorem dX3_closes_21 : decode cX3_closes 21 = .ok (.iload_n 1, 1) := by decide +kernel
theorem dX3_closes_22 : decode cX3_closes 22 = .ok (.isub, 1) := by decide +kernel
theorem dX3_closes_23 : decode cX3_closes 23 = .ok (.if_icmp .le 4, 3) := by decide +kernel
theorem dX3_closes_26 : decode cX3_closes 26 = .ok (.return_, 1) := by decide +kernel
theorem dX3_closes_27 : decode cX3_closes 27 = .ok (.iload_n 1, 1) := by decide +kernel
theorem dX3_closes_28 : decode cX3_closes 28 = .ok (.iload_n 2, 1) := by decide +kernel
theorem dX3_closes_29 : decode cX3_closes 29 = .ok (.iadd, 1) := by decide +kernel
theorem dX3_closes_30 : decode cX3_closes 30 = .ok (.istore_n 3, 1) := by decide +kernel
theorem dX3_closes_31 : decode cX3_closes 31 = .ok (.iload_n 3, 1) := by decide +kernel
theorem dX3_closes_32 : decode cX3_closes 32 = .ok (.aload_n 0, 1) := by decide +kernel
theorem dX3_closes_33 : decode cX3_closes 33 = .ok (.getfield 19, 3) := by decide +kernel
theorem dX3_closes_36 : decode cX3_closes 36 = .ok (.if_icmp .ge 21, 3) := by decide +kernel
theorem dX3_closes_39 : decode cX3_closes 39 = .ok (.aload_n 0, 1) := by decide +kernel
theorem dX3_closes_40 : decode cX3_closes 40 = .ok (.iload_n 3, 1) := by decide +kernel
theorem dX3_closes_41 : decode cX3_closes 41 = .ok (.iload_n 2, 1) := by decide +kernel
theorem dX3_closes_42 : decode cX3_closes 42 = .ok (.isub, 1) := by decide +kernel
theorem dX3_closes_43 : decode cX3_closes 43 = .ok (.aload_n 0, 1) := by decide +kernel
theorem dX3_closes_44 : decode cX3_closes 44 = .ok (.iload_n 3, 1) := by decide +kernel
theorem dX3_closes_45 : decode cX3_closes 45 = .ok (.invokevirtual 26, 3) := by decide +kernel
theorem dX3_closes_48 : decode cX3_closes 48 = .ok (.invokevirtual 34, 3) := by decide +kernel
theorem dX3_closes_51 : decode cX3_closes 51 = .ok (.iinc 3 1, 3) := by decide +kernel
theorem dX3_closes_54 : decode cX3_closes 54 = .ok (.goto (-23), 3) := by decide +kernel
theorem dX3_closes_57 : decode cX3_closes 57 = .ok (.aload_n 0, 1) := by decide +kernel
theorem dX3_closes_58 : decode cX3_closes 58 = .ok (.dup, 1) := by decide +kernel
theorem dX3_closes_59 : decode cX3_closes 59 = .ok (.getfield 19, 3) := by decide +kernel
theorem dX3_closes_62 : decode cX3_closes 62 = .ok (.iload_n 2, 1) := by decide +kernel
theorem dX3_closes_63 : decode cX3_closes 63 = .ok (.isub, 1) := by decide +kernel
theorem dX3_closes_64 : decode cX3_closes 64 = .ok (.putfield 19, 3) := by decide +kernel
theorem dX3_closes_67 : decode cX3_closes 67 = .ok (.return_, 1) := by decide +kernel
theorem dX3_mixedInto_0 : decode cX3_mixedInto 0 = .ok (.iconst 0, 1) := by decide +kernel
theorem dX3_mixedInto_1 : decode cX3_mixedInto 1 = .ok (.istore_n 3, 1) := by decide +kernel
theorem dX3_mixedInto_2 : decode cX3_mixedInto 2 = .ok (.iload_n 3, 1) := by decide +kernel
theorem dX3_mixedInto_3 : decode cX3_mixedInto 3 = .ok (.aload_n 0, 1) := by decide +kernel
theorem dX3_mixedInto_4 : decode cX3_mixedInto 4 = .ok (.getfield 19, 3) := by decide +kernel
theorem dX3_mixedInto_7 : decode cX3_mixedInto 7 = .ok (.if_icmp .ge 22, 3) := by decide +kernel
theorem dX3_mixedInto_10 : decode cX3_mixedInto 10 = .ok (.ldc2_w 38, 3) := by decide +kernel
theorem dX3_mixedInto_13 : decode cX3_mixedInto 13 = .ok (.lload_n 1, 1) := by decide +kernel
theorem dX3_mixedInto_14 : decode cX3_mixedInto 14 = .ok (.lmul, 1) := by decide +kernel
theorem dX3_mixedInto_15 : decode cX3_mixedInto 15 = .ok (.aload_n 0, 1) := by decide +kernel
theorem dX3_mixedInto_16 : decode cX3_mixedInto 16 = .ok (.iload_n 3, 1) := by decide +kernel
theorem dX3_mixedInto_17 : decode cX3_mixedInto 17 = .ok (.invokevirtual 26, 3) := by decide +kernel
theorem dX3_mixedInto_20 : decode cX3_mixedInto 20 = .ok (.i2l, 1) := by decide +kernel
theorem dX3_mixedInto_21 : decode cX3_mixedInto 21 = .ok (.ladd, 1) := by decide +kernel
theorem dX3_mixedInto_22 : decode cX3_mixedInto 22 = .ok (.lstore_n 1, 1) := by decide +kernel
theorem dX3_mixedInto_23 : decode cX3_mixedInto 23 = .ok (.iinc 3 1, 3) := by decide +kernel
theorem dX3_mixedInto_26 : decode cX3_mixedInto 26 = .ok (.goto (-24), 3) := by decide +kernel
theorem dX3_mixedInto_29 : decode cX3_mixedInto 29 = .ok (.lload_n 1, 1) := by decide +kernel
theorem dX3_mixedInto_30 : decode cX3_mixedInto 30 = .ok (.lreturn, 1) := by decide +kernel
theorem dX4_init_0 : decode cX4_init 0 = .ok (.aload_n 0, 1) := by decide +kernel
theorem dX4_init_1 : decode cX4_init 1 = .ok (.invokespecial 3, 3) := by decide +kernel
theorem dX4_init_4 : decode cX4_init 4 = .ok (.aload_n 0, 1) := by decide +kernel
theorem dX4_init_5 : decode cX4_init 5 = .ok (.iconst 4, 1) := by decide +kernel
theorem dX4_init_6 : decode cX4_init 6 = .ok (.anewarray 9, 3) := by decide +kernel
theorem dX4_init_9 : decode cX4_init 9 = .ok (.putfield 11, 3) := by decide +kernel
theorem dX4_init_12 : decode cX4_init 12 = .ok (.iconst 0, 1) := by decide +kernel
theorem dX4_init_13 : decode cX4_init 13 = .ok (.istore_n 1, 1) := by decide +kernel
theorem dX4_init_14 : decode cX4_init 14 = .ok (.iload_n 1, 1) := by decide +kernel
theorem dX4_init_15 : decode cX4_init 15 = .ok (.aload_n 0, 1) := by decide +kernel
theorem dX4_init_16 : decode cX4_init 16 = .ok (.getfield 11, 3) := by decide +kernel
theorem dX4_init_19 : decode cX4_init 19 = .ok (.arraylength, 1) := by decide +kernel
theorem dX4_init_20 : decode cX4_init 20 = .ok (.if_icmp .ge 22, 3) := by decide +kernel
theorem dX4_init_23 : decode cX4_init 23 = .ok (.aload_n 0, 1) := by decide +kernel
theorem dX4_init_24 : decode cX4_init 24 = .ok (.getfield 11, 3) := by decide +kernel
theorem dX4_init_27 : decode cX4_init 27 = .ok (.iload_n 1, 1) := by decide +kernel
theorem dX4_init_28 : decode cX4_init 28 = .ok (.new 9, 3) := by decide +kernel
theorem dX4_init_31 : decode cX4_init 31 = .ok (.dup, 1) := by decide +kernel
theorem dX4_init_32 : decode cX4_init 32 = .ok (.invokespecial 17, 3) := by decide +kernel
theorem dX4_init_35 : decode cX4_init 35 = .ok (.aastore, 1) := by decide +kernel
theorem dX4_init_36 : decode cX4_init 36 = .ok (.iinc 1 1, 3) := by decide +kernel
theorem dX4_init_39 : decode cX4_init 39 = .ok (.goto (-25), 3) := by decide +kernel
theorem dX4_init_42 : decode cX4_init 42 = .ok (.return_, 1) := by decide +kernel
theorem dX4_size_0 : decode cX4_size 0 = .ok (.aload_n 0, 1) := by decide +kernel
theorem dX4_size_1 : decode cX4_size 1 = .ok (.getfield 18, 3) := by decide +kernel
theorem dX4_size_4 : decode cX4_size 4 = .ok (.ireturn, 1) := by decide +kernel
theorem dX4_empties_0 : decode cX4_empties 0 = .ok (.aload_n 0, 1) := by decide +kernel
theorem dX4_empties_1 : decode cX4_empties 1 = .ok (.iconst 0, 1) := by decide +kernel
theorem dX4_empties_2 : decode cX4_empties 2 = .ok (.putfield 18, 3) := by decide +kernel
theorem dX4_empties_5 : decode cX4_empties 5 = .ok (.return_, 1) := by decide +kernel
theorem dX4_slot_0 : decode cX4_slot 0 = .ok (.iload_n 1, 1) := by decide +kernel
theorem dX4_slot_1 : decode cX4_slot 1 = .ok (.ifCond .lt 21, 3) := by decide +kernel
theorem dX4_slot_4 : decode cX4_slot 4 = .ok (.iload_n 1, 1) := by decide +kernel
theorem dX4_slot_5 : decode cX4_slot 5 = .ok (.aload_n 0, 1) := by decide +kernel
theorem dX4_slot_6 : decode cX4_slot 6 = .ok (.getfield 11, 3) := by decide +kernel
theorem dX4_slot_9 : decode cX4_slot 9 = .ok (.arraylength, 1) := by decide +kernel
theorem dX4_slot_10 : decode cX4_slot 10 = .ok (.if_icmp .ge 12, 3) := by decide +kernel
theorem dX4_slot_13 : decode cX4_slot 13 = .ok (.aload_n 0, 1) := by decide +kernel
theorem dX4_slot_14 : decode cX4_slot 14 = .ok (.getfield 11, 3) := by decide +kernel
theorem dX4_slot_17 : decode cX4_slot 17 = .ok (.iload_n 1, 1) := by decide +kernel
theorem dX4_slot_18 : decode cX4_slot 18 = .ok (.aaload, 1) := by decide +kernel
theorem dX4_slot_19 : decode cX4_slot 19 = .ok (.goto 4, 3) := by decide +kernel
theorem dX4_slot_22 : decode cX4_slot 22 = .ok (.aconst_null, 1) := by decide +kernel
theorem dX4_slot_23 : decode cX4_slot 23 = .ok (.areturn, 1) := by decide +kernel
theorem dX4_touches_0 : decode cX4_touches 0 = .ok (.iconst 0, 1) := by decide +kernel
theorem dX4_touches_1 : decode cX4_touches 1 = .ok (.istore_n 3, 1) := by decide +kernel
theorem dX4_touches_2 : decode cX4_touches 2 = .ok (.iload_n 3, 1) := by decide +kernel
theorem dX4_touches_3 : decode cX4_touches 3 = .ok (.aload_n 0, 1) := by decide +kernel
theorem dX4_touches_4 : decode cX4_touches 4 = .ok (.getfield 18, 3) := by decide +kernel
theorem dX4_touches_7 : decode cX4_touches 7 = .ok (.if_icmp .ge 33, 3) := by decide +kernel
theorem dX4_touches_10 : decode cX4_touches 10 = .ok (.aload_n 0, 1) := by decide +kernel
theorem dX4_touches_11 : decode cX4_touches 11 = .ok (.iload_n 3, 1) := by decide +kernel
theorem dX4_touches_12 : decode cX4_touches 12 = .ok (.invokevirtual 22, 3) := by decide +kernel
theorem dX4_touches_15 : decode cX4_touches 15 = .ok (.astore 4, 2) := by decide +kernel
theorem dX4_touches_17 : decode cX4_touches 17 = .ok (.aload 4, 2) := by decide +kernel
theorem dX4_touches_19 : decode cX4_touches 19 = .ok (.ifnull 15, 3) := by decide +kernel
theorem dX4_touches_22 : decode cX4_touches 22 = .ok (.aload 4, 2) := by decide +kernel
theorem dX4_touches_24 : decode cX4_touches 24 = .ok (.iload_n 1, 1) := by decide +kernel
theorem dX4_touches_25 : decode cX4_touches 25 = .ok (.iload_n 2, 1) := by decide +kernel
theorem dX4_touches_26 : decode cX4_touches 26 = .ok (.invokevirtual 26, 3) := by decide +kernel
theorem dX4_touches_29 : decode cX4_touches 29 = .ok (.ifCond .eq 5, 3) := by decide +kernel
theorem dX4_touches_32 : decode cX4_touches 32 = .ok (.iconst 1, 1) := by decide +kernel
theorem dX4_touches_33 : decode cX4_touches 33 = .ok (.ireturn, 1) := by decide +kernel
theorem dX4_touches_34 : decode cX4_touches 34 = .ok (.iinc 3 1, 3) := by decide +kernel
theorem dX4_touches_37 : decode cX4_touches 37 = .ok (.goto (-35), 3) := by decide +kernel
theorem dX4_touches_40 : decode cX4_touches 40 = .ok (.iconst 0, 1) := by decide +kernel
theorem dX4_touches_41 : decode cX4_touches 41 = .ok (.ireturn, 1) := by decide +kernel
theorem dX4_growth_0 : decode cX4_growth 0 = .ok (.iconst 0, 1) := by decide +kernel
theorem dX4_growth_1 : decode cX4_growth 1 = .ok (.istore_n 1, 1) := by decide +kernel
theorem dX4_growth_2 : decode cX4_growth 2 = .ok (.iconst 0, 1) := by decide +kernel
theorem dX4_growth_3 : decode cX4_growth 3 = .ok (.istore_n 2, 1) := by decide +kernel
theorem dX4_growth_4 : decode cX4_growth 4 = .ok (.iload_n 2, 1) := by decide +kernel
theorem dX4_growth_5 : decode cX4_growth 5 = .ok (.aload_n 0, 1) := by decide +kernel
theorem dX4_growth_6 : decode cX4_growth 6 = .ok (.getfield 18, 3) := by decide +kernel
theorem dX4_growth_9 : decode cX4_growth 9 = .ok (.if_icmp .ge 30, 3) := by decide +kernel
theorem dX4_growth_12 : decode cX4_growth 12 = .ok (.aload_n 0, 1) := by decide +kernel
theorem dX4_growth_13 : decode cX4_growth 13 = .ok (.iload_n 2, 1) := by decide +kernel
theorem dX4_growth_14 : decode cX4_growth 14 = .ok (.invokevirtual 22, 3) := by decide +kernel
theorem dX4_growth_17 : decode cX4_growth 17 = .ok (.astore_n 3, 1) := by decide +kernel
theorem dX4_growth_18 : decode cX4_growth 18 = .ok (.iload_n 1, 1) := by decide +kernel
theorem dX4_growth_19 : decode cX4_growth 19 = .ok (.aload_n 3, 1) := by decide +kernel
theorem dX4_growth_20 : decode cX4_growth 20 = .ok (.ifnonnull 7, 3) := by decide +kernel
theorem dX4_growth_23 : decode cX4_growth 23 = .ok (.iconst 0, 1) := by decide +kernel
theorem dX4_growth_24 : decode cX4_growth 24 = .ok (.goto 7, 3) := by decide +kernel
theorem dX4_growth_27 : decode cX4_growth 27 = .ok (.aload_n 3, 1) := by decide +kernel
theorem dX4_growth_28 : decode cX4_growth 28 = .ok (.invokevirtual 30, 3) := by decide +kernel
theorem dX4_growth_31 : decode cX4_growth 31 = .ok (.iadd, 1) := by decide +kernel
theorem dX4_growth_32 : decode cX4_growth 32 = .ok (.istore_n 1, 1) := by decide +kernel
theorem dX4_growth_33 : decode cX4_growth 33 = .ok (.iinc 2 1, 3) := by decide +kernel
theorem dX4_growth_36 : decode cX4_growth 36 = .ok (.goto (-32), 3) := by decide +kernel
theorem dX4_growth_39 : decode cX4_growth 39 = .ok (.iload_n 1, 1) := by decide +kernel
theorem dX4_growth_40 : decode cX4_growth 40 = .ok (.ireturn, 1) := by decide +kernel
theorem dX4_adds_0 : decode cX4_adds 0 = .ok (.aload_n 0, 1) := by decide +kernel
theorem dX4_adds_1 : decode cX4_adds 1 = .ok (.aload_n 0, 1) := by decide +kernel
theorem dX4_adds_2 : decode cX4_adds 2 = .ok (.getfield 18, 3) := by decide +kernel
theorem dX4_adds_5 : decode cX4_adds 5 = .ok (.invokevirtual 22, 3) := by decide +kernel
theorem dX4_adds_8 : decode cX4_adds 8 = .ok (.astore 4, 2) := by decide +kernel
theorem dX4_adds_10 : decode cX4_adds 10 = .ok (.aload 4, 2) := by decide +kernel
theorem dX4_adds_12 : decode cX4_adds 12 = .ok (.ifnonnull 4, 3) := by decide +kernel
theorem dX4_adds_15 : decode cX4_adds 15 = .ok (.return_, 1) := by decide +kernel
theorem dX4_adds_16 : decode cX4_adds 16 = .ok (.aload 4, 2) := by decide +kernel
theorem dX4_adds_18 : decode cX4_adds 18 = .ok (.iload_n 1, 1) := by decide +kernel
theorem dX4_adds_19 : decode cX4_adds 19 = .ok (.iload_n 2, 1) := by decide +kernel
theorem dX4_adds_20 : decode cX4_adds 20 = .ok (.aload_n 3, 1) := by decide +kernel
theorem dX4_adds_21 : decode cX4_adds 21 = .ok (.invokevirtual 34, 3) := by decide +kernel
theorem dX4_adds_24 : decode cX4_adds 24 = .ok (.aload_n 0, 1) := by decide +kernel
theorem dX4_adds_25 : decode cX4_adds 25 = .ok (.getfield 18, 3) := by decide +kernel
theorem dX4_adds_28 : decode cX4_adds 28 = .ok (.istore 5, 2) := by decide +kernel
theorem dX4_adds_30 : decode cX4_adds 30 = .ok (.iload 5, 2) := by decide +kernel
theorem dX4_adds_32 : decode cX4_adds 32 = .ok (.ifCond .le 46, 3) := by decide +kernel
theorem dX4_adds_35 : decode cX4_adds 35 = .ok (.iload 5, 2) := by decide +kernel
theorem dX4_adds_37 : decode cX4_adds 37 = .ok (.aload_n 0, 1) := by decide +kernel
theorem dX4_adds_38 : decode cX4_adds 38 = .ok (.getfield 11, 3) := by decide +kernel
theorem dX4_adds_41 : decode cX4_adds 41 = .ok (.arraylength, 1) := by decide +kernel
theorem dX4_adds_42 : decode cX4_adds 42 = .ok (.if_icmp .ge 36, 3) := by decide +kernel
theorem dX4_adds_45 : decode cX4_adds 45 = .ok (.aload_n 0, 1) := by decide +kernel
theorem dX4_adds_46 : decode cX4_adds 46 = .ok (.iload 5, 2) := by decide +kernel
theorem dX4_adds_48 : decode cX4_adds 48 = .ok (.iconst 1, 1) := by decide +kernel
theorem dX4_adds_49 : decode cX4_adds 49 = .ok (.isub, 1) := by decide +kernel
theorem dX4_adds_50 : decode cX4_adds 50 = .ok (.iload_n 1, 1) := by decide +kernel
theorem dX4_adds_51 : decode cX4_adds 51 = .ok (.invokevirtual 38, 3) := by decide +kernel
theorem dX4_adds_54 : decode cX4_adds 54 = .ok (.ifCond .eq 24, 3) := by decide +kernel
theorem dX4_adds_57 : decode cX4_adds 57 = .ok (.aload_n 0, 1) := by decide +kernel
theorem dX4_adds_58 : decode cX4_adds 58 = .ok (.getfield 11, 3) := by decide +kernel
theorem dX4_adds_61 : decode cX4_adds 61 = .ok (.iload 5, 2) := by decide +kernel
theorem dX4_adds_63 : decode cX4_adds 63 = .ok (.aload_n 0, 1) := by decide +kernel
theorem dX4_adds_64 : decode cX4_adds 64 = .ok (.iload 5, 2) := by decide +kernel
theorem dX4_adds_66 : decode cX4_adds 66 = .ok (.iconst 1, 1) := by decide +kernel
theorem dX4_adds_67 : decode cX4_adds 67 = .ok (.isub, 1) := by decide +kernel
theorem dX4_adds_68 : decode cX4_adds 68 = .ok (.invokevirtual 22, 3) := by decide +kernel
theorem dX4_adds_71 : decode cX4_adds 71 = .ok (.aastore, 1) := by decide +kernel
theorem dX4_adds_72 : decode cX4_adds 72 = .ok (.iinc 5 (-1), 3) := by decide +kernel
theorem dX4_adds_75 : decode cX4_adds 75 = .ok (.goto (-45), 3) := by decide +kernel
theorem dX4_adds_78 : decode cX4_adds 78 = .ok (.iload 5, 2) := by decide +kernel
theorem dX4_adds_80 : decode cX4_adds 80 = .ok (.ifCond .lt 22, 3) := by decide +kernel
theorem dX4_adds_83 : decode cX4_adds 83 = .ok (.iload 5, 2) := by decide +kernel
theorem dX4_adds_85 : decode cX4_adds 85 = .ok (.aload_n 0, 1) := by decide +kernel
theorem dX4_adds_86 : decode cX4_adds 86 = .ok (.getfield 11, 3) := by decide +kernel
theorem dX4_adds_89 : decode cX4_adds 89 = .ok (.arraylength, 1) := by decide +kernel
theorem dX4_adds_90 : decode cX4_adds 90 = .ok (.if_icmp .ge 12, 3) := by decide +kernel
theorem dX4_adds_93 : decode cX4_adds 93 = .ok (.aload_n 0, 1) := by decide +kernel
theorem dX4_adds_94 : decode cX4_adds 94 = .ok (.getfield 11, 3) := by decide +kernel
theorem dX4_adds_97 : decode cX4_adds 97 = .ok (.iload 5, 2) := by decide +kernel
theorem dX4_adds_99 : decode cX4_adds 99 = .ok (.aload 4, 2) := by decide +kernel
theorem dX4_adds_101 : decode cX4_adds 101 = .ok (.aastore, 1) := by decide +kernel
theorem dX4_adds_102 : decode cX4_adds 102 = .ok (.aload_n 0, 1) := by decide +kernel
theorem dX4_adds_103 : decode cX4_adds 103 = .ok (.dup, 1) := by decide +kernel
theorem dX4_adds_104 : decode cX4_adds 104 = .ok (.getfield 18, 3) := by decide +kernel
theorem dX4_adds_107 : decode cX4_adds 107 = .ok (.iconst 1, 1) := by decide +kernel
theorem dX4_adds_108 : decode cX4_adds 108 = .ok (.iadd, 1) := by decide +kernel
theorem dX4_adds_109 : decode cX4_adds 109 = .ok (.putfield 18, 3) := by decide +kernel
theorem dX4_adds_112 : decode cX4_adds 112 = .ok (.return_, 1) := by decide +kernel
theorem dX4_isBehind_0 : decode cX4_isBehind 0 = .ok (.aload_n 0, 1) := by decide +kernel
theorem dX4_isBehind_1 : decode cX4_isBehind 1 = .ok (.iload_n 1, 1) := by decide +kernel
theorem dX4_isBehind_2 : decode cX4_isBehind 2 = .ok (.invokevirtual 22, 3) := by decide +kernel
theorem dX4_isBehind_5 : decode cX4_isBehind 5 = .ok (.astore_n 3, 1) := by decide +kernel
theorem dX4_isBehind_6 : decode cX4_isBehind 6 = .ok (.aload_n 3, 1) := by decide +kernel
theorem dX4_isBehind_7 : decode cX4_isBehind 7 = .ok (.ifnull 15, 3) := by decide +kernel
theorem dX4_isBehind_10 : decode cX4_isBehind 10 = .ok (.aload_n 3, 1) := by decide +kernel
theorem dX4_isBehind_11 : decode cX4_isBehind 11 = .ok (.iload_n 2, 1) := by decide +kernel
theorem dX4_isBehind_12 : decode cX4_isBehind 12 = .ok (.invokevirtual 41, 3) := by decide +kernel
theorem dX4_isBehind_15 : decode cX4_isBehind 15 = .ok (.ifCond .eq 7, 3) := by decide +kernel
theorem dX4_isBehind_18 : decode cX4_isBehind 18 = .ok (.iconst 1, 1) := by decide +kernel
theorem dX4_isBehind_19 : decode cX4_isBehind 19 = .ok (.goto 4, 3) := by decide +kernel
theorem dX4_isBehind_22 : decode cX4_isBehind 22 = .ok (.iconst 0, 1) := by decide +kernel
theorem dX4_isBehind_23 : decode cX4_isBehind 23 = .ok (.ireturn, 1) := by decide +kernel
theorem dX4_changesAll_0 : decode cX4_changesAll 0 = .ok (.aload_n 0, 1) := by decide +kernel
theorem dX4_changesAll_1 : decode cX4_changesAll 1 = .ok (.getfield 18, 3) := by decide +kernel
theorem dX4_changesAll_4 : decode cX4_changesAll 4 = .ok (.iconst 1, 1) := by decide +kernel
theorem dX4_changesAll_5 : decode cX4_changesAll 5 = .ok (.isub, 1) := by decide +kernel
theorem dX4_changesAll_6 : decode cX4_changesAll 6 = .ok (.istore_n 2, 1) := by decide +kernel
theorem dX4_changesAll_7 : decode cX4_changesAll 7 = .ok (.iload_n 2, 1) := by decide +kernel
theorem dX4_changesAll_8 : decode cX4_changesAll 8 = .ok (.ifCond .lt 35, 3) := by decide +kernel
theorem dX4_changesAll_11 : decode cX4_changesAll 11 = .ok (.aload_n 0, 1) := by decide +kernel
theorem dX4_changesAll_12 : decode cX4_changesAll 12 = .ok (.iload_n 2, 1) := by decide +kernel
theorem dX4_changesAll_13 : decode cX4_changesAll 13 = .ok (.invokevirtual 22, 3) := by decide +kernel
theorem dX4_changesAll_16 : decode cX4_changesAll 16 = .ok (.astore_n 3, 1) := by decide +kernel
theorem dX4_changesAll_17 : decode cX4_changesAll 17 = .ok (.aload_n 3, 1) := by decide +kernel
theorem dX4_changesAll_18 : decode cX4_changesAll 18 = .ok (.ifnull 19, 3) := by decide +kernel
theorem dX4_changesAll_21 : decode cX4_changesAll 21 = .ok (.aload_n 1, 1) := by decide +kernel
theorem dX4_changesAll_22 : decode cX4_changesAll 22 = .ok (.aload_n 3, 1) := by decide +kernel
theorem dX4_changesAll_23 : decode cX4_changesAll 23 = .ok (.getfield 45, 3) := by decide +kernel
theorem dX4_changesAll_26 : decode cX4_changesAll 26 = .ok (.aload_n 3, 1) := by decide +kernel
theorem dX4_changesAll_27 : decode cX4_changesAll 27 = .ok (.getfield 48, 3) := by decide +kernel
theorem dX4_changesAll_30 : decode cX4_changesAll 30 = .ok (.aload_n 3, 1) := by decide +kernel
theorem dX4_changesAll_31 : decode cX4_changesAll 31 = .ok (.getfield 51, 3) := by decide +kernel
theorem dX4_changesAll_34 : decode cX4_changesAll 34 = .ok (.invokevirtual 55, 3) := by decide +kernel
theorem dX4_changesAll_37 : decode cX4_changesAll 37 = .ok (.iinc 2 (-1), 3) := by decide +kernel
theorem dX4_changesAll_40 : decode cX4_changesAll 40 = .ok (.goto (-33), 3) := by decide +kernel
theorem dX4_changesAll_43 : decode cX4_changesAll 43 = .ok (.return_, 1) := by decide +kernel
theorem dJ9_max_7cf53_0 : decode cJ9_max_7cf53 0 = .ok (.iload_n 0, 1) := by decide +kernel
theorem dJ9_max_7cf53_1 : decode cJ9_max_7cf53 1 = .ok (.iload_n 1, 1) := by decide +kernel
theorem dJ9_max_7cf53_2 : decode cJ9_max_7cf53 2 = .ok (.if_icmp .lt 7, 3) := by decide +kernel
theorem dJ9_max_7cf53_5 : decode cJ9_max_7cf53 5 = .ok (.iload_n 0, 1) := by decide +kernel
theorem dJ9_max_7cf53_6 : decode cJ9_max_7cf53 6 = .ok (.goto 4, 3) := by decide +kernel
theorem dJ9_max_7cf53_9 : decode cJ9_max_7cf53 9 = .ok (.iload_n 1, 1) := by decide +kernel
theorem dJ9_max_7cf53_10 : decode cJ9_max_7cf53 10 = .ok (.ireturn, 1) := by decide +kernel
theorem dJ9_min_7cf53_0 : decode cJ9_min_7cf53 0 = .ok (.iload_n 0, 1) := by decide +kernel
theorem dJ9_min_7cf53_1 : decode cJ9_min_7cf53 1 = .ok (.iload_n 1, 1) := by decide +kernel
theorem dJ9_min_7cf53_2 : decode cJ9_min_7cf53 2 = .ok (.if_icmp .gt 7, 3) := by decide +kernel
theorem dJ9_min_7cf53_5 : decode cJ9_min_7cf53 5 = .ok (.iload_n 0, 1) := by decide +kernel
theorem dJ9_min_7cf53_6 : decode cJ9_min_7cf53 6 = .ok (.goto 4, 3) := by decide +kernel
theorem dJ9_min_7cf53_9 : decode cJ9_min_7cf53 9 = .ok (.iload_n 1, 1) := by decide +kernel
theorem dJ9_min_7cf53_10 : decode cJ9_min_7cf53 10 = .ok (.ireturn, 1) := by decide +kernel
