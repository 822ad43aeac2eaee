theorem dX6_init_0 : decode cX6_init 0 = .ok (.aload_n 0, 1) := by decide +kernel
theorem dX6_init_1 : decode cX6_init 1 = .ok (.invokespecial 3, 3) := by decide +kernel
theorem dX6_init_4 : decode cX6_init 4 = .ok (.aload_n 0, 1) := by decide +kernel
theorem dX6_init_5 : decode cX6_init 5 = .ok (.new 9, 3) := by decide +kernel
theorem dX6_init_8 : decode cX6_init 8 = .ok (.dup, 1) := by decide +kernel
theorem dX6_init_9 : decode cX6_init 9 = .ok (.sipush 216, 3) := by decide +kernel
theorem dX6_init_12 : decode cX6_init 12 = .ok (.invokespecial 11, 3) := by decide +kernel
theorem dX6_init_15 : decode cX6_init 15 = .ok (.putfield 14, 3) := by decide +kernel
theorem dX6_init_18 : decode cX6_init 18 = .ok (.aload_n 0, 1) := by decide +kernel
theorem dX6_init_19 : decode cX6_init 19 = .ok (.new 18, 3) := by decide +kernel
theorem dX6_init_22 : decode cX6_init 22 = .ok (.dup, 1) := by decide +kernel
theorem dX6_init_23 : decode cX6_init 23 = .ok (.invokespecial 20, 3) := by decide +kernel
theorem dX6_init_26 : decode cX6_init 26 = .ok (.putfield 21, 3) := by decide +kernel
theorem dX6_init_29 : decode cX6_init 29 = .ok (.aload_n 0, 1) := by decide +kernel
theorem dX6_init_30 : decode cX6_init 30 = .ok (.new 25, 3) := by decide +kernel
theorem dX6_init_33 : decode cX6_init 33 = .ok (.dup, 1) := by decide +kernel
theorem dX6_init_34 : decode cX6_init 34 = .ok (.bipush 24, 2) := by decide +kernel
theorem dX6_init_36 : decode cX6_init 36 = .ok (.invokespecial 27, 3) := by decide +kernel
theorem dX6_init_39 : decode cX6_init 39 = .ok (.putfield 28, 3) := by decide +kernel
theorem dX6_init_42 : decode cX6_init 42 = .ok (.aload_n 0, 1) := by decide +kernel
theorem dX6_init_43 : decode cX6_init 43 = .ok (.new 32, 3) := by decide +kernel
theorem dX6_init_46 : decode cX6_init 46 = .ok (.dup, 1) := by decide +kernel
theorem dX6_init_47 : decode cX6_init 47 = .ok (.invokespecial 34, 3) := by decide +kernel
theorem dX6_init_50 : decode cX6_init 50 = .ok (.putfield 35, 3) := by decide +kernel
theorem dX6_init_53 : decode cX6_init 53 = .ok (.aload_n 0, 1) := by decide +kernel
theorem dX6_init_54 : decode cX6_init 54 = .ok (.new 39, 3) := by decide +kernel
theorem dX6_init_57 : decode cX6_init 57 = .ok (.dup, 1) := by decide +kernel
theorem dX6_init_58 : decode cX6_init 58 = .ok (.invokespecial 41, 3) := by decide +kernel
theorem dX6_init_61 : decode cX6_init 61 = .ok (.putfield 42, 3) := by decide +kernel
theorem dX6_init_64 : decode cX6_init 64 = .ok (.aload_n 0, 1) := by decide +kernel
theorem dX6_init_65 : decode cX6_init 65 = .ok (.iconst 2, 1) := by decide +kernel
theorem dX6_init_66 : decode cX6_init 66 = .ok (.anewarray 9, 3) := by decide +kernel
theorem dX6_init_69 : decode cX6_init 69 = .ok (.putfield 46, 3) := by decide +kernel
theorem dX6_init_72 : decode cX6_init 72 = .ok (.return_, 1) := by decide +kernel
theorem dX6_type_0 : decode cX6_type 0 = .ok (.iload_n 1, 1) := by decide +kernel
theorem dX6_type_1 : decode cX6_type 1 = .ok (.ifCond .lt 10, 3) := by decide +kernel
theorem dX6_type_4 : decode cX6_type 4 = .ok (.iload_n 1, 1) := by decide +kernel
theorem dX6_type_5 : decode cX6_type 5 = .ok (.sipush 255, 3) := by decide +kernel
theorem dX6_type_8 : decode cX6_type 8 = .ok (.if_icmp .le 5, 3) := by decide +kernel
theorem dX6_type_11 : decode cX6_type 11 = .ok (.iconst (-1), 1) := by decide +kernel
theorem dX6_type_12 : decode cX6_type 12 = .ok (.ireturn, 1) := by decide +kernel
theorem dX6_type_13 : decode cX6_type 13 = .ok (.aload_n 0, 1) := by decide +kernel
theorem dX6_type_14 : decode cX6_type 14 = .ok (.getfield 28, 3) := by decide +kernel
theorem dX6_type_17 : decode cX6_type 17 = .ok (.invokevirtual 50, 3) := by decide +kernel
theorem dX6_type_20 : decode cX6_type 20 = .ok (.bipush 24, 2) := by decide +kernel
theorem dX6_type_22 : decode cX6_type 22 = .ok (.if_icmp .lt 6, 3) := by decide +kernel
theorem dX6_type_25 : decode cX6_type 25 = .ok (.bipush (-3), 2) := by decide +kernel
theorem dX6_type_27 : decode cX6_type 27 = .ok (.ireturn, 1) := by decide +kernel
theorem dX6_type_28 : decode cX6_type 28 = .ok (.aload_n 0, 1) := by decide +kernel
theorem dX6_type_29 : decode cX6_type 29 = .ok (.getfield 28, 3) := by decide +kernel
theorem dX6_type_32 : decode cX6_type 32 = .ok (.iload_n 1, 1) := by decide +kernel
theorem dX6_type_33 : decode cX6_type 33 = .ok (.invokevirtual 54, 3) := by decide +kernel
theorem dX6_type_36 : decode cX6_type 36 = .ok (.aload_n 0, 1) := by decide +kernel
theorem dX6_type_37 : decode cX6_type 37 = .ok (.getfield 28, 3) := by decide +kernel
theorem dX6_type_40 : decode cX6_type 40 = .ok (.invokevirtual 50, 3) := by decide +kernel
theorem dX6_type_43 : decode cX6_type 43 = .ok (.ireturn, 1) := by decide +kernel
theorem dX6_clear_0 : decode cX6_clear 0 = .ok (.aload_n 0, 1) := by decide +kernel
theorem dX6_clear_1 : decode cX6_clear 1 = .ok (.getfield 28, 3) := by decide +kernel
theorem dX6_clear_4 : decode cX6_clear 4 = .ok (.invokevirtual 50, 3) := by decide +kernel
theorem dX6_clear_7 : decode cX6_clear 7 = .ok (.istore_n 1, 1) := by decide +kernel
theorem dX6_clear_8 : decode cX6_clear 8 = .ok (.aload_n 0, 1) := by decide +kernel
theorem dX6_clear_9 : decode cX6_clear 9 = .ok (.getfield 28, 3) := by decide +kernel
theorem dX6_clear_12 : decode cX6_clear 12 = .ok (.invokevirtual 57, 3) := by decide +kernel
theorem dX6_clear_15 : decode cX6_clear 15 = .ok (.iload_n 1, 1) := by decide +kernel
theorem dX6_clear_16 : decode cX6_clear 16 = .ok (.ireturn, 1) := by decide +kernel
theorem dX6_edits_0 : decode cX6_edits 0 = .ok (.aload_n 0, 1) := by decide +kernel
theorem dX6_edits_1 : decode cX6_edits 1 = .ok (.iload_n 1, 1) := by decide +kernel
theorem dX6_edits_2 : decode cX6_edits 2 = .ok (.iload_n 2, 1) := by decide +kernel
theorem dX6_edits_3 : decode cX6_edits 3 = .ok (.invokevirtual 60, 3) := by decide +kernel
theorem dX6_edits_6 : decode cX6_edits 6 = .ok (.ifCond .ne 5, 3) := by decide +kernel
theorem dX6_edits_9 : decode cX6_edits 9 = .ok (.iconst (-1), 1) := by decide +kernel
theorem dX6_edits_10 : decode cX6_edits 10 = .ok (.ireturn, 1) := by decide +kernel
theorem dX6_edits_11 : decode cX6_edits 11 = .ok (.aload_n 0, 1) := by decide +kernel
theorem dX6_edits_12 : decode cX6_edits 12 = .ok (.getfield 35, 3) := by decide +kernel
theorem dX6_edits_15 : decode cX6_edits 15 = .ok (.invokevirtual 64, 3) := by decide +kernel
theorem dX6_edits_18 : decode cX6_edits 18 = .ok (.ifCond .le 6, 3) := by decide +kernel
theorem dX6_edits_21 : decode cX6_edits 21 = .ok (.bipush (-2), 2) := by decide +kernel
theorem dX6_edits_23 : decode cX6_edits 23 = .ok (.ireturn, 1) := by decide +kernel
theorem dX6_edits_24 : decode cX6_edits 24 = .ok (.aload_n 0, 1) := by decide +kernel
theorem dX6_edits_25 : decode cX6_edits 25 = .ok (.getfield 14, 3) := by decide +kernel
theorem dX6_edits_28 : decode cX6_edits 28 = .ok (.getfield 65, 3) := by decide +kernel
theorem dX6_edits_31 : decode cX6_edits 31 = .ok (.invokevirtual 50, 3) := by decide +kernel
theorem dX6_edits_34 : decode cX6_edits 34 = .ok (.iload_n 2, 1) := by decide +kernel
theorem dX6_edits_35 : decode cX6_edits 35 = .ok (.isub, 1) := by decide +kernel
theorem dX6_edits_36 : decode cX6_edits 36 = .ok (.aload_n 0, 1) := by decide +kernel
theorem dX6_edits_37 : decode cX6_edits 37 = .ok (.getfield 28, 3) := by decide +kernel
theorem dX6_edits_40 : decode cX6_edits 40 = .ok (.invokevirtual 50, 3) := by decide +kernel
theorem dX6_edits_43 : decode cX6_edits 43 = .ok (.iadd, 1) := by decide +kernel
theorem dX6_edits_44 : decode cX6_edits 44 = .ok (.bipush 120, 2) := by decide +kernel
theorem dX6_edits_46 : decode cX6_edits 46 = .ok (.if_icmp .le 6, 3) := by decide +kernel
theorem dX6_edits_49 : decode cX6_edits 49 = .ok (.bipush (-3), 2) := by decide +kernel
theorem dX6_edits_51 : decode cX6_edits 51 = .ok (.ireturn, 1) := by decide +kernel
theorem dX6_edits_52 : decode cX6_edits 52 = .ok (.aload_n 0, 1) := by decide +kernel
theorem dX6_edits_53 : decode cX6_edits 53 = .ok (.getfield 42, 3) := by decide +kernel
theorem dX6_edits_56 : decode cX6_edits 56 = .ok (.aload_n 0, 1) := by decide +kernel
theorem dX6_edits_57 : decode cX6_edits 57 = .ok (.getfield 14, 3) := by decide +kernel
theorem dX6_edits_60 : decode cX6_edits 60 = .ok (.invokevirtual 68, 3) := by decide +kernel
theorem dX6_edits_63 : decode cX6_edits 63 = .ok (.aload_n 0, 1) := by decide +kernel
theorem dX6_edits_64 : decode cX6_edits 64 = .ok (.getfield 14, 3) := by decide +kernel
theorem dX6_edits_67 : decode cX6_edits 67 = .ok (.iload_n 1, 1) := by decide +kernel
theorem dX6_edits_68 : decode cX6_edits 68 = .ok (.iload_n 2, 1) := by decide +kernel
theorem dX6_edits_69 : decode cX6_edits 69 = .ok (.aload_n 0, 1) := by decide +kernel
theorem dX6_edits_70 : decode cX6_edits 70 = .ok (.getfield 28, 3) := by decide +kernel
theorem dX6_edits_73 : decode cX6_edits 73 = .ok (.invokevirtual 72, 3) := by decide +kernel
theorem dX6_edits_76 : decode cX6_edits 76 = .ok (.aload_n 0, 1) := by decide +kernel
theorem dX6_edits_77 : decode cX6_edits 77 = .ok (.getfield 28, 3) := by decide +kernel
theorem dX6_edits_80 : decode cX6_edits 80 = .ok (.invokevirtual 57, 3) := by decide +kernel
theorem dX6_edits_83 : decode cX6_edits 83 = .ok (.aload_n 0, 1) := by decide +kernel
theorem dX6_edits_84 : decode cX6_edits 84 = .ok (.getfield 21, 3) := by decide +kernel
theorem dX6_edits_87 : decode cX6_edits 87 = .ok (.aload_n 0, 1) := by decide +kernel
theorem dX6_edits_88 : decode cX6_edits 88 = .ok (.getfield 14, 3) := by decide +kernel
theorem dX6_edits_91 : decode cX6_edits 91 = .ok (.getfield 65, 3) := by decide +kernel
theorem dX6_edits_94 : decode cX6_edits 94 = .ok (.invokevirtual 76, 3) := by decide +kernel
theorem dX6_edits_97 : decode cX6_edits 97 = .ok (.aload_n 0, 1) := by decide +kernel
theorem dX6_edits_98 : decode cX6_edits 98 = .ok (.getfield 14, 3) := by decide +kernel
theorem dX6_edits_101 : decode cX6_edits 101 = .ok (.getfield 65, 3) := by decide +kernel
theorem dX6_edits_104 : decode cX6_edits 104 = .ok (.invokevirtual 50, 3) := by decide +kernel
theorem dX6_edits_107 : decode cX6_edits 107 = .ok (.ireturn, 1) := by decide +kernel
theorem dX6_stages_0 : decode cX6_stages 0 = .ok (.aload_n 0, 1) := by decide +kernel
theorem dX6_stages_1 : decode cX6_stages 1 = .ok (.iload_n 1, 1) := by decide +kernel
theorem dX6_stages_2 : decode cX6_stages 2 = .ok (.iload_n 2, 1) := by decide +kernel
theorem dX6_stages_3 : decode cX6_stages 3 = .ok (.invokevirtual 60, 3) := by decide +kernel
theorem dX6_stages_6 : decode cX6_stages 6 = .ok (.ifCond .ne 5, 3) := by decide +kernel
theorem dX6_stages_9 : decode cX6_stages 9 = .ok (.iconst (-1), 1) := by decide +kernel
theorem dX6_stages_10 : decode cX6_stages 10 = .ok (.ireturn, 1) := by decide +kernel
theorem dX6_stages_11 : decode cX6_stages 11 = .ok (.aload_n 0, 1) := by decide +kernel
theorem dX6_stages_12 : decode cX6_stages 12 = .ok (.getfield 35, 3) := by decide +kernel
theorem dX6_stages_15 : decode cX6_stages 15 = .ok (.iload_n 1, 1) := by decide +kernel
theorem dX6_stages_16 : decode cX6_stages 16 = .ok (.iload_n 2, 1) := by decide +kernel
theorem dX6_stages_17 : decode cX6_stages 17 = .ok (.invokevirtual 80, 3) := by decide +kernel
theorem dX6_stages_20 : decode cX6_stages 20 = .ok (.ifCond .eq 6, 3) := by decide +kernel
theorem dX6_stages_23 : decode cX6_stages 23 = .ok (.bipush (-2), 2) := by decide +kernel
theorem dX6_stages_25 : decode cX6_stages 25 = .ok (.ireturn, 1) := by decide +kernel
theorem dX6_stages_26 : decode cX6_stages 26 = .ok (.aload_n 0, 1) := by decide +kernel
theorem dX6_stages_27 : decode cX6_stages 27 = .ok (.getfield 35, 3) := by decide +kernel
theorem dX6_stages_30 : decode cX6_stages 30 = .ok (.invokevirtual 64, 3) := by decide +kernel
theorem dX6_stages_33 : decode cX6_stages 33 = .ok (.iconst 4, 1) := by decide +kernel
theorem dX6_stages_34 : decode cX6_stages 34 = .ok (.if_icmp .lt 6, 3) := by decide +kernel
theorem dX6_stages_37 : decode cX6_stages 37 = .ok (.bipush (-3), 2) := by decide +kernel
theorem dX6_stages_39 : decode cX6_stages 39 = .ok (.ireturn, 1) := by decide +kernel
theorem dX6_stages_40 : decode cX6_stages 40 = .ok (.aload_n 0, 1) := by decide +kernel
theorem dX6_stages_41 : decode cX6_stages 41 = .ok (.getfield 35, 3) := by decide +kernel
theorem dX6_stages_44 : decode cX6_stages 44 = .ok (.iload_n 1, 1) := by decide +kernel
theorem dX6_stages_45 : decode cX6_stages 45 = .ok (.iload_n 2, 1) := by decide +kernel
theorem dX6_stages_46 : decode cX6_stages 46 = .ok (.aload_n 0, 1) := by decide +kernel
theorem dX6_stages_47 : decode cX6_stages 47 = .ok (.getfield 28, 3) := by decide +kernel
theorem dX6_stages_50 : decode cX6_stages 50 = .ok (.invokevirtual 83, 3) := by decide +kernel
theorem dX6_stages_53 : decode cX6_stages 53 = .ok (.aload_n 0, 1) := by decide +kernel
theorem dX6_stages_54 : decode cX6_stages 54 = .ok (.getfield 28, 3) := by decide +kernel
theorem dX6_stages_57 : decode cX6_stages 57 = .ok (.invokevirtual 57, 3) := by decide +kernel
theorem dX6_stages_60 : decode cX6_stages 60 = .ok (.aload_n 0, 1) := by decide +kernel
theorem dX6_stages_61 : decode cX6_stages 61 = .ok (.getfield 35, 3) := by decide +kernel
theorem dX6_stages_64 : decode cX6_stages 64 = .ok (.invokevirtual 64, 3) := by decide +kernel
theorem dX6_stages_67 : decode cX6_stages 67 = .ok (.ireturn, 1) := by decide +kernel
theorem dX6_does_0 : decode cX6_does 0 = .ok (.aload_n 0, 1) := by decide +kernel
theorem dX6_does_1 : decode cX6_does 1 = .ok (.getfield 35, 3) := by decide +kernel
theorem dX6_does_4 : decode cX6_does 4 = .ok (.invokevirtual 64, 3) := by decide +kernel
theorem dX6_does_7 : decode cX6_does 7 = .ok (.ifCond .ne 6, 3) := by decide +kernel
theorem dX6_does_10 : decode cX6_does 10 = .ok (.bipush (-2), 2) := by decide +kernel
theorem dX6_does_12 : decode cX6_does 12 = .ok (.ireturn, 1) := by decide +kernel
theorem dX6_does_13 : decode cX6_does 13 = .ok (.aload_n 0, 1) := by decide +kernel
theorem dX6_does_14 : decode cX6_does 14 = .ok (.getfield 14, 3) := by decide +kernel
theorem dX6_does_17 : decode cX6_does 17 = .ok (.getfield 65, 3) := by decide +kernel
theorem dX6_does_20 : decode cX6_does 20 = .ok (.invokevirtual 50, 3) := by decide +kernel
theorem dX6_does_23 : decode cX6_does 23 = .ok (.aload_n 0, 1) := by decide +kernel
theorem dX6_does_24 : decode cX6_does 24 = .ok (.getfield 35, 3) := by decide +kernel
theorem dX6_does_27 : decode cX6_does 27 = .ok (.invokevirtual 86, 3) := by decide +kernel
theorem dX6_does_30 : decode cX6_does 30 = .ok (.iadd, 1) := by decide +kernel
theorem dX6_does_31 : decode cX6_does 31 = .ok (.bipush 120, 2) := by decide +kernel
theorem dX6_does_33 : decode cX6_does 33 = .ok (.if_icmp .le 6, 3) := by decide +kernel
theorem dX6_does_36 : decode cX6_does 36 = .ok (.bipush (-3), 2) := by decide +kernel
theorem dX6_does_38 : decode cX6_does 38 = .ok (.ireturn, 1) := by decide +kernel
theorem dX6_does_39 : decode cX6_does 39 = .ok (.aload_n 0, 1) := by decide +kernel
theorem dX6_does_40 : decode cX6_does 40 = .ok (.getfield 42, 3) := by decide +kernel
theorem dX6_does_43 : decode cX6_does 43 = .ok (.aload_n 0, 1) := by decide +kernel
theorem dX6_does_44 : decode cX6_does 44 = .ok (.getfield 14, 3) := by decide +kernel
theorem dX6_does_47 : decode cX6_does 47 = .ok (.invokevirtual 68, 3) := by decide +kernel
theorem dX6_does_50 : decode cX6_does 50 = .ok (.aload_n 0, 1) := by decide +kernel
theorem dX6_does_51 : decode cX6_does 51 = .ok (.getfield 35, 3) := by decide +kernel
theorem dX6_does_54 : decode cX6_does 54 = .ok (.aload_n 0, 1) := by decide +kernel
theorem dX6_does_55 : decode cX6_does 55 = .ok (.getfield 14, 3) := by decide +kernel
theorem dX6_does_58 : decode cX6_does 58 = .ok (.invokevirtual 89, 3) := by decide +kernel
theorem dX6_does_61 : decode cX6_does 61 = .ok (.aload_n 0, 1) := by decide +kernel
theorem dX6_does_62 : decode cX6_does 62 = .ok (.getfield 35, 3) := by decide +kernel
theorem dX6_does_65 : decode cX6_does 65 = .ok (.invokevirtual 92, 3) := by decide +kernel
theorem dX6_does_68 : decode cX6_does 68 = .ok (.aload_n 0, 1) := by decide +kernel
theorem dX6_does_69 : decode cX6_does 69 = .ok (.getfield 21, 3) := by decide +kernel
theorem dX6_does_72 : decode cX6_does 72 = .ok (.aload_n 0, 1) := by decide +kernel
theorem dX6_does_73 : decode cX6_does 73 = .ok (.getfield 14, 3) := by decide +kernel
theorem dX6_does_76 : decode cX6_does 76 = .ok (.getfield 65, 3) := by decide +kernel
theorem dX6_does_79 : decode cX6_does 79 = .ok (.invokevirtual 76, 3) := by decide +kernel
theorem dX6_does_82 : decode cX6_does 82 = .ok (.aload_n 0, 1) := by decide +kernel
theorem dX6_does_83 : decode cX6_does 83 = .ok (.getfield 14, 3) := by decide +kernel
theorem dX6_does_86 : decode cX6_does 86 = .ok (.getfield 65, 3) := by decide +kernel
theorem dX6_does_89 : decode cX6_does 89 = .ok (.invokevirtual 50, 3) := by decide +kernel
theorem dX6_does_92 : decode cX6_does 92 = .ok (.ireturn, 1) := by decide +kernel
theorem dX6_drops_0 : decode cX6_drops 0 = .ok (.aload_n 0, 1) := by decide +kernel
theorem dX6_drops_1 : decode cX6_drops 1 = .ok (.getfield 35, 3) := by decide +kernel
theorem dX6_drops_4 : decode cX6_drops 4 = .ok (.invokevirtual 64, 3) := by decide +kernel
theorem dX6_drops_7 : decode cX6_drops 7 = .ok (.istore_n 1, 1) := by decide +kernel
theorem dX6_drops_8 : decode cX6_drops 8 = .ok (.aload_n 0, 1) := by decide +kernel
theorem dX6_drops_9 : decode cX6_drops 9 = .ok (.getfield 35, 3) := by decide +kernel
theorem dX6_drops_12 : decode cX6_drops 12 = .ok (.invokevirtual 92, 3) := by decide +kernel
theorem dX6_drops_15 : decode cX6_drops 15 = .ok (.iload_n 1, 1) := by decide +kernel
theorem dX6_drops_16 : decode cX6_drops 16 = .ok (.ireturn, 1) := by decide +kernel
theorem dX6_undo_0 : decode cX6_undo 0 = .ok (.aload_n 0, 1) := by decide +kernel
theorem dX6_undo_1 : decode cX6_undo 1 = .ok (.getfield 42, 3) := by decide +kernel
theorem dX6_undo_4 : decode cX6_undo 4 = .ok (.invokevirtual 93, 3) := by decide +kernel
theorem dX6_undo_7 : decode cX6_undo 7 = .ok (.ifCond .eq 13, 3) := by decide +kernel
theorem dX6_undo_10 : decode cX6_undo 10 = .ok (.aload_n 0, 1) := by decide +kernel
theorem dX6_undo_11 : decode cX6_undo 11 = .ok (.getfield 35, 3) := by decide +kernel
theorem dX6_undo_14 : decode cX6_undo 14 = .ok (.invokevirtual 64, 3) := by decide +kernel
theorem dX6_undo_17 : decode cX6_undo 17 = .ok (.ifCond .le 6, 3) := by decide +kernel
theorem dX6_undo_20 : decode cX6_undo 20 = .ok (.bipush (-2), 2) := by decide +kernel
theorem dX6_undo_22 : decode cX6_undo 22 = .ok (.ireturn, 1) := by decide +kernel
theorem dX6_undo_23 : decode cX6_undo 23 = .ok (.aload_n 0, 1) := by decide +kernel
theorem dX6_undo_24 : decode cX6_undo 24 = .ok (.getfield 42, 3) := by decide +kernel
theorem dX6_undo_27 : decode cX6_undo 27 = .ok (.aload_n 0, 1) := by decide +kernel
theorem dX6_undo_28 : decode cX6_undo 28 = .ok (.getfield 14, 3) := by decide +kernel
theorem dX6_undo_31 : decode cX6_undo 31 = .ok (.invokevirtual 94, 3) := by decide +kernel
theorem dX6_undo_34 : decode cX6_undo 34 = .ok (.aload_n 0, 1) := by decide +kernel
theorem dX6_undo_35 : decode cX6_undo 35 = .ok (.getfield 21, 3) := by decide +kernel
theorem dX6_undo_38 : decode cX6_undo 38 = .ok (.aload_n 0, 1) := by decide +kernel
theorem dX6_undo_39 : decode cX6_undo 39 = .ok (.getfield 14, 3) := by decide +kernel
theorem dX6_undo_42 : decode cX6_undo 42 = .ok (.getfield 65, 3) := by decide +kernel
theorem dX6_undo_45 : decode cX6_undo 45 = .ok (.invokevirtual 76, 3) := by decide +kernel
theorem dX6_undo_48 : decode cX6_undo 48 = .ok (.aload_n 0, 1) := by decide +kernel
theorem dX6_undo_49 : decode cX6_undo 49 = .ok (.getfield 42, 3) := by decide +kernel
theorem dX6_undo_52 : decode cX6_undo 52 = .ok (.invokevirtual 93, 3) := by decide +kernel
theorem dX6_undo_55 : decode cX6_undo 55 = .ok (.ireturn, 1) := by decide +kernel
theorem dX6_at_0 : decode cX6_at 0 = .ok (.iload_n 1, 1) := by decide +kernel
theorem dX6_at_1 : decode cX6_at 1 = .ok (.ifCond .lt 17, 3) := by decide +kernel
theorem dX6_at_4 : decode cX6_at 4 = .ok (.iload_n 1, 1) := by decide +kernel
theorem dX6_at_5 : decode cX6_at 5 = .ok (.aload_n 0, 1) := by decide +kernel
theorem dX6_at_6 : decode cX6_at 6 = .ok (.getfield 14, 3) := by decide +kernel
theorem dX6_at_9 : decode cX6_at 9 = .ok (.getfield 65, 3) := by decide +kernel
theorem dX6_at_12 : decode cX6_at 12 = .ok (.invokevirtual 50, 3) := by decide +kernel
theorem dX6_at_15 : decode cX6_at 15 = .ok (.if_icmp .lt 5, 3) := by decide +kernel
theorem dX6_at_18 : decode cX6_at 18 = .ok (.iconst (-1), 1) := by decide +kernel
theorem dX6_at_19 : decode cX6_at 19 = .ok (.ireturn, 1) := by decide +kernel
theorem dX6_at_20 : decode cX6_at 20 = .ok (.aload_n 0, 1) := by decide +kernel
theorem dX6_at_21 : decode cX6_at 21 = .ok (.getfield 14, 3) := by decide +kernel
theorem dX6_at_24 : decode cX6_at 24 = .ok (.getfield 65, 3) := by decide +kernel
theorem dX6_at_27 : decode cX6_at 27 = .ok (.iload_n 1, 1) := by decide +kernel
theorem dX6_at_28 : decode cX6_at 28 = .ok (.invokevirtual 97, 3) := by decide +kernel
theorem dX6_at_31 : decode cX6_at 31 = .ok (.ireturn, 1) := by decide +kernel
theorem dX6_tells_0 : decode cX6_tells 0 = .ok (.iload_n 1, 1) := by decide +kernel
theorem dX6_tells_1 : decode cX6_tells 1 = .ok (.invokestatic 101, 3) := by decide +kernel
theorem dX6_tells_4 : decode cX6_tells 4 = .ok (.ifCond .eq 26, 3) := by decide +kernel
theorem dX6_tells_7 : decode cX6_tells 7 = .ok (.iload_n 3, 1) := by decide +kernel
theorem dX6_tells_8 : decode cX6_tells 8 = .ok (.invokestatic 101, 3) := by decide +kernel
theorem dX6_tells_11 : decode cX6_tells 11 = .ok (.ifCond .eq 19, 3) := by decide +kernel
theorem dX6_tells_14 : decode cX6_tells 14 = .ok (.iload_n 2, 1) := by decide +kernel
theorem dX6_tells_15 : decode cX6_tells 15 = .ok (.ifCond .lt 15, 3) := by decide +kernel
theorem dX6_tells_18 : decode cX6_tells 18 = .ok (.iload_n 2, 1) := by decide +kernel
theorem dX6_tells_19 : decode cX6_tells 19 = .ok (.aload_n 0, 1) := by decide +kernel
theorem dX6_tells_20 : decode cX6_tells 20 = .ok (.getfield 21, 3) := by decide +kernel
theorem dX6_tells_23 : decode cX6_tells 23 = .ok (.iload_n 1, 1) := by decide +kernel
theorem dX6_tells_24 : decode cX6_tells 24 = .ok (.invokevirtual 105, 3) := by decide +kernel
theorem dX6_tells_27 : decode cX6_tells 27 = .ok (.if_icmp .le 5, 3) := by decide +kernel
theorem dX6_tells_30 : decode cX6_tells 30 = .ok (.iconst (-1), 1) := by decide +kernel
theorem dX6_tells_31 : decode cX6_tells 31 = .ok (.ireturn, 1) := by decide +kernel
theorem dX6_tells_32 : decode cX6_tells 32 = .ok (.aload_n 0, 1) := by decide +kernel
theorem dX6_tells_33 : decode cX6_tells 33 = .ok (.getfield 21, 3) := by decide +kernel
theorem dX6_tells_36 : decode cX6_tells 36 = .ok (.iload_n 3, 1) := by decide +kernel
theorem dX6_tells_37 : decode cX6_tells 37 = .ok (.aload_n 0, 1) := by decide +kernel
theorem dX6_tells_38 : decode cX6_tells 38 = .ok (.getfield 21, 3) := by decide +kernel
theorem dX6_tells_41 : decode cX6_tells 41 = .ok (.iload_n 1, 1) := by decide +kernel
theorem dX6_tells_42 : decode cX6_tells 42 = .ok (.iload_n 2, 1) := by decide +kernel
theorem dX6_tells_43 : decode cX6_tells 43 = .ok (.invokevirtual 108, 3) := by decide +kernel
theorem dX6_tells_46 : decode cX6_tells 46 = .ok (.invokevirtual 112, 3) := by decide +kernel
theorem dX6_tells_49 : decode cX6_tells 49 = .ok (.ireturn, 1) := by decide +kernel
theorem dX6_spot_0 : decode cX6_spot 0 = .ok (.aload_n 0, 1) := by decide +kernel
theorem dX6_spot_1 : decode cX6_spot 1 = .ok (.iload_n 1, 1) := by decide +kernel
theorem dX6_spot_2 : decode cX6_spot 2 = .ok (.invokevirtual 115, 3) := by decide +kernel
theorem dX6_spot_5 : decode cX6_spot 5 = .ok (.ifCond .eq 12, 3) := by decide +kernel
theorem dX6_spot_8 : decode cX6_spot 8 = .ok (.iload_n 2, 1) := by decide +kernel
theorem dX6_spot_9 : decode cX6_spot 9 = .ok (.ifCond .lt 8, 3) := by decide +kernel
theorem dX6_spot_12 : decode cX6_spot 12 = .ok (.iload_n 2, 1) := by decide +kernel
theorem dX6_spot_13 : decode cX6_spot 13 = .ok (.iconst 3, 1) := by decide +kernel
theorem dX6_spot_14 : decode cX6_spot 14 = .ok (.if_icmp .le 5, 3) := by decide +kernel
theorem dX6_spot_17 : decode cX6_spot 17 = .ok (.iconst (-1), 1) := by decide +kernel
theorem dX6_spot_18 : decode cX6_spot 18 = .ok (.ireturn, 1) := by decide +kernel
theorem dX6_spot_19 : decode cX6_spot 19 = .ok (.aload_n 0, 1) := by decide +kernel
theorem dX6_spot_20 : decode cX6_spot 20 = .ok (.getfield 21, 3) := by decide +kernel
theorem dX6_spot_23 : decode cX6_spot 23 = .ok (.iconst 2, 1) := by decide +kernel
theorem dX6_spot_24 : decode cX6_spot 24 = .ok (.iload_n 1, 1) := by decide +kernel
theorem dX6_spot_25 : decode cX6_spot 25 = .ok (.invokevirtual 112, 3) := by decide +kernel
theorem dX6_spot_28 : decode cX6_spot 28 = .ok (.istore_n 3, 1) := by decide +kernel
theorem dX6_spot_29 : decode cX6_spot 29 = .ok (.iload_n 2, 1) := by decide +kernel
theorem dX6_spot_30 : decode cX6_spot 30 = .ok (.ifCond .ne 5, 3) := by decide +kernel
theorem dX6_spot_33 : decode cX6_spot 33 = .ok (.iload_n 3, 1) := by decide +kernel
theorem dX6_spot_34 : decode cX6_spot 34 = .ok (.ireturn, 1) := by decide +kernel
theorem dX6_spot_35 : decode cX6_spot 35 = .ok (.aload_n 0, 1) := by decide +kernel
theorem dX6_spot_36 : decode cX6_spot 36 = .ok (.getfield 21, 3) := by decide +kernel
theorem dX6_spot_39 : decode cX6_spot 39 = .ok (.iload_n 2, 1) := by decide +kernel
theorem dX6_spot_40 : decode cX6_spot 40 = .ok (.invokestatic 118, 3) := by decide +kernel
theorem dX6_spot_43 : decode cX6_spot 43 = .ok (.aload_n 0, 1) := by decide +kernel
theorem dX6_spot_44 : decode cX6_spot 44 = .ok (.getfield 21, 3) := by decide +kernel
theorem dX6_spot_47 : decode cX6_spot 47 = .ok (.iload_n 3, 1) := by decide +kernel
theorem dX6_spot_48 : decode cX6_spot 48 = .ok (.invokevirtual 121, 3) := by decide +kernel
theorem dX6_spot_51 : decode cX6_spot 51 = .ok (.iload_n 1, 1) := by decide +kernel
theorem dX6_spot_52 : decode cX6_spot 52 = .ok (.invokevirtual 124, 3) := by decide +kernel
theorem dX6_spot_55 : decode cX6_spot 55 = .ok (.ireturn, 1) := by decide +kernel
theorem dX6_column_0 : decode cX6_column 0 = .ok (.aload_n 0, 1) := by decide +kernel
theorem dX6_column_1 : decode cX6_column 1 = .ok (.iload_n 1, 1) := by decide +kernel
theorem dX6_column_2 : decode cX6_column 2 = .ok (.invokevirtual 128, 3) := by decide +kernel
theorem dX6_column_5 : decode cX6_column 5 = .ok (.ifCond .eq 7, 3) := by decide +kernel
theorem dX6_column_8 : decode cX6_column 8 = .ok (.iload_n 2, 1) := by decide +kernel
theorem dX6_column_9 : decode cX6_column 9 = .ok (.ifCond .ge 5, 3) := by decide +kernel
theorem dX6_column_12 : decode cX6_column 12 = .ok (.iconst (-1), 1) := by decide +kernel
theorem dX6_column_13 : decode cX6_column 13 = .ok (.ireturn, 1) := by decide +kernel
theorem dX6_column_14 : decode cX6_column 14 = .ok (.aload_n 0, 1) := by decide +kernel
theorem dX6_column_15 : decode cX6_column 15 = .ok (.getfield 21, 3) := by decide +kernel
theorem dX6_column_18 : decode cX6_column 18 = .ok (.iconst 3, 1) := by decide +kernel
theorem dX6_column_19 : decode cX6_column 19 = .ok (.aload_n 0, 1) := by decide +kernel
theorem dX6_column_20 : decode cX6_column 20 = .ok (.getfield 21, 3) := by decide +kernel
theorem dX6_column_23 : decode cX6_column 23 = .ok (.iload_n 1, 1) := by decide +kernel
theorem dX6_column_24 : decode cX6_column 24 = .ok (.invokevirtual 121, 3) := by decide +kernel
theorem dX6_column_27 : decode cX6_column 27 = .ok (.aload_n 0, 1) := by decide +kernel
theorem dX6_column_28 : decode cX6_column 28 = .ok (.getfield 21, 3) := by decide +kernel
theorem dX6_column_31 : decode cX6_column 31 = .ok (.iload_n 1, 1) := by decide +kernel
theorem dX6_column_32 : decode cX6_column 32 = .ok (.invokevirtual 131, 3) := by decide +kernel
theorem dX6_column_35 : decode cX6_column 35 = .ok (.iload_n 2, 1) := by decide +kernel
theorem dX6_column_36 : decode cX6_column 36 = .ok (.invokevirtual 134, 3) := by decide +kernel
theorem dX6_column_39 : decode cX6_column 39 = .ok (.ireturn, 1) := by decide +kernel
theorem dX6_line_0 : decode cX6_line 0 = .ok (.aload_n 0, 1) := by decide +kernel
theorem dX6_line_1 : decode cX6_line 1 = .ok (.iload_n 1, 1) := by decide +kernel
theorem dX6_line_2 : decode cX6_line 2 = .ok (.invokevirtual 128, 3) := by decide +kernel
theorem dX6_line_5 : decode cX6_line 5 = .ok (.ifCond .eq 12, 3) := by decide +kernel
theorem dX6_line_8 : decode cX6_line 8 = .ok (.iload_n 2, 1) := by decide +kernel
theorem dX6_line_9 : decode cX6_line 9 = .ok (.ifCond .lt 8, 3) := by decide +kernel
theorem dX6_line_12 : decode cX6_line 12 = .ok (.iload_n 2, 1) := by decide +kernel
theorem dX6_line_13 : decode cX6_line 13 = .ok (.iconst 3, 1) := by decide +kernel
theorem dX6_line_14 : decode cX6_line 14 = .ok (.if_icmp .le 5, 3) := by decide +kernel
theorem dX6_line_17 : decode cX6_line 17 = .ok (.iconst (-1), 1) := by decide +kernel
theorem dX6_line_18 : decode cX6_line 18 = .ok (.ireturn, 1) := by decide +kernel
theorem dX6_line_19 : decode cX6_line 19 = .ok (.aload_n 0, 1) := by decide +kernel
theorem dX6_line_20 : decode cX6_line 20 = .ok (.getfield 21, 3) := by decide +kernel
theorem dX6_line_23 : decode cX6_line 23 = .ok (.iload_n 1, 1) := by decide +kernel
theorem dX6_line_24 : decode cX6_line 24 = .ok (.invokevirtual 121, 3) := by decide +kernel
theorem dX6_line_27 : decode cX6_line 27 = .ok (.istore_n 3, 1) := by decide +kernel
theorem dX6_line_28 : decode cX6_line 28 = .ok (.iload_n 2, 1) := by decide +kernel
theorem dX6_line_29 : decode cX6_line 29 = .ok (.ifCond .ne 5, 3) := by decide +kernel
theorem dX6_line_32 : decode cX6_line 32 = .ok (.iload_n 3, 1) := by decide +kernel
theorem dX6_line_33 : decode cX6_line 33 = .ok (.ireturn, 1) := by decide +kernel
theorem dX6_line_34 : decode cX6_line 34 = .ok (.aload_n 0, 1) := by decide +kernel
theorem dX6_line_35 : decode cX6_line 35 = .ok (.getfield 21, 3) := by decide +kernel
theorem dX6_line_38 : decode cX6_line 38 = .ok (.iload_n 2, 1) := by decide +kernel
theorem dX6_line_39 : decode cX6_line 39 = .ok (.invokestatic 118, 3) := by decide +kernel
theorem dX6_line_42 : decode cX6_line 42 = .ok (.iload_n 3, 1) := by decide +kernel
theorem dX6_line_43 : decode cX6_line 43 = .ok (.aload_n 0, 1) := by decide +kernel
theorem dX6_line_44 : decode cX6_line 44 = .ok (.getfield 21, 3) := by decide +kernel
theorem dX6_line_47 : decode cX6_line 47 = .ok (.iload_n 1, 1) := by decide +kernel
theorem dX6_line_48 : decode cX6_line 48 = .ok (.invokevirtual 131, 3) := by decide +kernel
theorem dX6_line_51 : decode cX6_line 51 = .ok (.invokevirtual 124, 3) := by decide +kernel
theorem dX6_line_54 : decode cX6_line 54 = .ok (.ireturn, 1) := by decide +kernel
theorem dX6_wide_0 : decode cX6_wide 0 = .ok (.aload_n 0, 1) := by decide +kernel
theorem dX6_wide_1 : decode cX6_wide 1 = .ok (.iload_n 1, 1) := by decide +kernel
theorem dX6_wide_2 : decode cX6_wide 2 = .ok (.invokevirtual 128, 3) := by decide +kernel
theorem dX6_wide_5 : decode cX6_wide 5 = .ok (.ifCond .ne 5, 3) := by decide +kernel
theorem dX6_wide_8 : decode cX6_wide 8 = .ok (.iconst (-1), 1) := by decide +kernel
theorem dX6_wide_9 : decode cX6_wide 9 = .ok (.ireturn, 1) := by decide +kernel
theorem dX6_wide_10 : decode cX6_wide 10 = .ok (.aload_n 0, 1) := by decide +kernel
theorem dX6_wide_11 : decode cX6_wide 11 = .ok (.getfield 21, 3) := by decide +kernel
theorem dX6_wide_14 : decode cX6_wide 14 = .ok (.iload_n 1, 1) := by decide +kernel
theorem dX6_wide_15 : decode cX6_wide 15 = .ok (.invokevirtual 138, 3) := by decide +kernel
theorem dX6_wide_18 : decode cX6_wide 18 = .ok (.ireturn, 1) := by decide +kernel
theorem dX6_chunk_0 : decode cX6_chunk 0 = .ok (.iload_n 1, 1) := by decide +kernel
theorem dX6_chunk_1 : decode cX6_chunk 1 = .ok (.ifCond .lt 26, 3) := by decide +kernel
theorem dX6_chunk_4 : decode cX6_chunk 4 = .ok (.iload_n 1, 1) := by decide +kernel
theorem dX6_chunk_5 : decode cX6_chunk 5 = .ok (.aload_n 0, 1) := by decide +kernel
theorem dX6_chunk_6 : decode cX6_chunk 6 = .ok (.getfield 14, 3) := by decide +kernel
theorem dX6_chunk_9 : decode cX6_chunk 9 = .ok (.getfield 141, 3) := by decide +kernel
theorem dX6_chunk_12 : decode cX6_chunk 12 = .ok (.invokevirtual 50, 3) := by decide +kernel
theorem dX6_chunk_15 : decode cX6_chunk 15 = .ok (.if_icmp .ge 12, 3) := by decide +kernel
theorem dX6_chunk_18 : decode cX6_chunk 18 = .ok (.iload_n 2, 1) := by decide +kernel
theorem dX6_chunk_19 : decode cX6_chunk 19 = .ok (.ifCond .lt 8, 3) := by decide +kernel
theorem dX6_chunk_22 : decode cX6_chunk 22 = .ok (.iload_n 2, 1) := by decide +kernel
theorem dX6_chunk_23 : decode cX6_chunk 23 = .ok (.iconst 4, 1) := by decide +kernel
theorem dX6_chunk_24 : decode cX6_chunk 24 = .ok (.if_icmp .le 5, 3) := by decide +kernel
theorem dX6_chunk_27 : decode cX6_chunk 27 = .ok (.iconst (-1), 1) := by decide +kernel
theorem dX6_chunk_28 : decode cX6_chunk 28 = .ok (.ireturn, 1) := by decide +kernel
theorem dX6_chunk_29 : decode cX6_chunk 29 = .ok (.aload_n 0, 1) := by decide +kernel
theorem dX6_chunk_30 : decode cX6_chunk 30 = .ok (.getfield 14, 3) := by decide +kernel
theorem dX6_chunk_33 : decode cX6_chunk 33 = .ok (.iload_n 1, 1) := by decide +kernel
theorem dX6_chunk_34 : decode cX6_chunk 34 = .ok (.invokevirtual 144, 3) := by decide +kernel
theorem dX6_chunk_37 : decode cX6_chunk 37 = .ok (.istore_n 3, 1) := by decide +kernel
theorem dX6_chunk_38 : decode cX6_chunk 38 = .ok (.iload_n 3, 1) := by decide +kernel
theorem dX6_chunk_39 : decode cX6_chunk 39 = .ok (.aload_n 0, 1) := by decide +kernel
theorem dX6_chunk_40 : decode cX6_chunk 40 = .ok (.getfield 14, 3) := by decide +kernel
theorem dX6_chunk_43 : decode cX6_chunk 43 = .ok (.getfield 141, 3) := by decide +kernel
theorem dX6_chunk_46 : decode cX6_chunk 46 = .ok (.iload_n 1, 1) := by decide +kernel
theorem dX6_chunk_47 : decode cX6_chunk 47 = .ok (.invokevirtual 97, 3) := by decide +kernel
theorem dX6_chunk_50 : decode cX6_chunk 50 = .ok (.iadd, 1) := by decide +kernel
theorem dX6_chunk_51 : decode cX6_chunk 51 = .ok (.istore 4, 2) := by decide +kernel
theorem dX6_chunk_53 : decode cX6_chunk 53 = .ok (.iload_n 2, 1) := by decide +kernel
theorem dX6_chunk_54 : decode cX6_chunk 54 = .ok (.iconst 4, 1) := by decide +kernel
theorem dX6_chunk_55 : decode cX6_chunk 55 = .ok (.if_icmp .ne 11, 3) := by decide +kernel
theorem dX6_chunk_58 : decode cX6_chunk 58 = .ok (.aload_n 0, 1) := by decide +kernel
theorem dX6_chunk_59 : decode cX6_chunk 59 = .ok (.iload_n 3, 1) := by decide +kernel
theorem dX6_chunk_60 : decode cX6_chunk 60 = .ok (.iload 4, 2) := by decide +kernel
theorem dX6_chunk_62 : decode cX6_chunk 62 = .ok (.invokevirtual 147, 3) := by decide +kernel
theorem dX6_chunk_65 : decode cX6_chunk 65 = .ok (.ireturn, 1) := by decide +kernel
theorem dX6_chunk_66 : decode cX6_chunk 66 = .ok (.aload_n 0, 1) := by decide +kernel
theorem dX6_chunk_67 : decode cX6_chunk 67 = .ok (.getfield 21, 3) := by decide +kernel
theorem dX6_chunk_70 : decode cX6_chunk 70 = .ok (.iload_n 2, 1) := by decide +kernel
theorem dX6_chunk_71 : decode cX6_chunk 71 = .ok (.iload_n 3, 1) := by decide +kernel
theorem dX6_chunk_72 : decode cX6_chunk 72 = .ok (.iload 4, 2) := by decide +kernel
theorem dX6_chunk_74 : decode cX6_chunk 74 = .ok (.invokevirtual 124, 3) := by decide +kernel
theorem dX6_chunk_77 : decode cX6_chunk 77 = .ok (.ireturn, 1) := by decide +kernel
theorem dX6_marks_0 : decode cX6_marks 0 = .ok (.iload_n 1, 1) := by decide +kernel
theorem dX6_marks_1 : decode cX6_marks 1 = .ok (.invokestatic 150, 3) := by decide +kernel
theorem dX6_marks_4 : decode cX6_marks 4 = .ok (.ifCond .eq 11, 3) := by decide +kernel
theorem dX6_marks_7 : decode cX6_marks 7 = .ok (.aload_n 0, 1) := by decide +kernel
theorem dX6_marks_8 : decode cX6_marks 8 = .ok (.iload_n 2, 1) := by decide +kernel
theorem dX6_marks_9 : decode cX6_marks 9 = .ok (.invokevirtual 115, 3) := by decide +kernel
theorem dX6_marks_12 : decode cX6_marks 12 = .ok (.ifCond .ne 5, 3) := by decide +kernel
theorem dX6_marks_15 : decode cX6_marks 15 = .ok (.iconst (-1), 1) := by decide +kernel
theorem dX6_marks_16 : decode cX6_marks 16 = .ok (.ireturn, 1) := by decide +kernel
theorem dX6_marks_17 : decode cX6_marks 17 = .ok (.aload_n 0, 1) := by decide +kernel
theorem dX6_marks_18 : decode cX6_marks 18 = .ok (.getfield 14, 3) := by decide +kernel
theorem dX6_marks_21 : decode cX6_marks 21 = .ok (.iload_n 1, 1) := by decide +kernel
theorem dX6_marks_22 : decode cX6_marks 22 = .ok (.invokevirtual 153, 3) := by decide +kernel
theorem dX6_marks_25 : decode cX6_marks 25 = .ok (.istore_n 3, 1) := by decide +kernel
theorem dX6_marks_26 : decode cX6_marks 26 = .ok (.iload_n 3, 1) := by decide +kernel
theorem dX6_marks_27 : decode cX6_marks 27 = .ok (.bipush (-9), 2) := by decide +kernel
theorem dX6_marks_29 : decode cX6_marks 29 = .ok (.if_icmp .ne 18, 3) := by decide +kernel
theorem dX6_marks_32 : decode cX6_marks 32 = .ok (.aload_n 0, 1) := by decide +kernel
theorem dX6_marks_33 : decode cX6_marks 33 = .ok (.getfield 14, 3) := by decide +kernel
theorem dX6_marks_36 : decode cX6_marks 36 = .ok (.invokevirtual 156, 3) := by decide +kernel
theorem dX6_marks_39 : decode cX6_marks 39 = .ok (.bipush 8, 2) := by decide +kernel
theorem dX6_marks_41 : decode cX6_marks 41 = .ok (.if_icmp .lt 6, 3) := by decide +kernel
theorem dX6_marks_44 : decode cX6_marks 44 = .ok (.bipush (-3), 2) := by decide +kernel
theorem dX6_marks_46 : decode cX6_marks 46 = .ok (.ireturn, 1) := by decide +kernel
theorem dX6_marks_47 : decode cX6_marks 47 = .ok (.aload_n 0, 1) := by decide +kernel
theorem dX6_marks_48 : decode cX6_marks 48 = .ok (.getfield 14, 3) := by decide +kernel
theorem dX6_marks_51 : decode cX6_marks 51 = .ok (.iload_n 1, 1) := by decide +kernel
theorem dX6_marks_52 : decode cX6_marks 52 = .ok (.iload_n 2, 1) := by decide +kernel
theorem dX6_marks_53 : decode cX6_marks 53 = .ok (.invokevirtual 159, 3) := by decide +kernel
theorem dX6_marks_56 : decode cX6_marks 56 = .ok (.iload_n 3, 1) := by decide +kernel
theorem dX6_marks_57 : decode cX6_marks 57 = .ok (.ireturn, 1) := by decide +kernel
theorem dX6_lifts_0 : decode cX6_lifts 0 = .ok (.iload_n 1, 1) := by decide +kernel
theorem dX6_lifts_1 : decode cX6_lifts 1 = .ok (.invokestatic 150, 3) := by decide +kernel
theorem dX6_lifts_4 : decode cX6_lifts 4 = .ok (.ifCond .ne 5, 3) := by decide +kernel
theorem dX6_lifts_7 : decode cX6_lifts 7 = .ok (.iconst (-1), 1) := by decide +kernel
theorem dX6_lifts_8 : decode cX6_lifts 8 = .ok (.ireturn, 1) := by decide +kernel
theorem dX6_lifts_9 : decode cX6_lifts 9 = .ok (.aload_n 0, 1) := by decide +kernel
theorem dX6_lifts_10 : decode cX6_lifts 10 = .ok (.getfield 14, 3) := by decide +kernel
theorem dX6_lifts_13 : decode cX6_lifts 13 = .ok (.iload_n 1, 1) := by decide +kernel
theorem dX6_lifts_14 : decode cX6_lifts 14 = .ok (.invokevirtual 153, 3) := by decide +kernel
theorem dX6_lifts_17 : decode cX6_lifts 17 = .ok (.istore_n 2, 1) := by decide +kernel
theorem dX6_lifts_18 : decode cX6_lifts 18 = .ok (.iload_n 2, 1) := by decide +kernel
theorem dX6_lifts_19 : decode cX6_lifts 19 = .ok (.bipush (-9), 2) := by decide +kernel
theorem dX6_lifts_21 : decode cX6_lifts 21 = .ok (.if_icmp .ne 6, 3) := by decide +kernel
theorem dX6_lifts_24 : decode cX6_lifts 24 = .ok (.bipush (-2), 2) := by decide +kernel
theorem dX6_lifts_26 : decode cX6_lifts 26 = .ok (.ireturn, 1) := by decide +kernel
theorem dX6_lifts_27 : decode cX6_lifts 27 = .ok (.aload_n 0, 1) := by decide +kernel
theorem dX6_lifts_28 : decode cX6_lifts 28 = .ok (.getfield 14, 3) := by decide +kernel
theorem dX6_lifts_31 : decode cX6_lifts 31 = .ok (.iload_n 1, 1) := by decide +kernel
theorem dX6_lifts_32 : decode cX6_lifts 32 = .ok (.bipush (-9), 2) := by decide +kernel
theorem dX6_lifts_34 : decode cX6_lifts 34 = .ok (.invokevirtual 159, 3) := by decide +kernel
theorem dX6_lifts_37 : decode cX6_lifts 37 = .ok (.iload_n 2, 1) := by decide +kernel
theorem dX6_lifts_38 : decode cX6_lifts 38 = .ok (.ireturn, 1) := by decide +kernel
theorem dX6_mark_0 : decode cX6_mark 0 = .ok (.iload_n 1, 1) := by decide +kernel
theorem dX6_mark_1 : decode cX6_mark 1 = .ok (.invokestatic 150, 3) := by decide +kernel
theorem dX6_mark_4 : decode cX6_mark 4 = .ok (.ifCond .ne 5, 3) := by decide +kernel
theorem dX6_mark_7 : decode cX6_mark 7 = .ok (.iconst (-1), 1) := by decide +kernel
theorem dX6_mark_8 : decode cX6_mark 8 = .ok (.ireturn, 1) := by decide +kernel
theorem dX6_mark_9 : decode cX6_mark 9 = .ok (.aload_n 0, 1) := by decide +kernel
theorem dX6_mark_10 : decode cX6_mark 10 = .ok (.getfield 14, 3) := by decide +kernel
theorem dX6_mark_13 : decode cX6_mark 13 = .ok (.iload_n 1, 1) := by decide +kernel
theorem dX6_mark_14 : decode cX6_mark 14 = .ok (.invokevirtual 153, 3) := by decide +kernel
theorem dX6_mark_17 : decode cX6_mark 17 = .ok (.ireturn, 1) := by decide +kernel
theorem dX6_next_0 : decode cX6_next 0 = .ok (.aload_n 0, 1) := by decide +kernel
theorem dX6_next_1 : decode cX6_next 1 = .ok (.iload_n 1, 1) := by decide +kernel
theorem dX6_next_2 : decode cX6_next 2 = .ok (.invokevirtual 115, 3) := by decide +kernel
theorem dX6_next_5 : decode cX6_next 5 = .ok (.ifCond .ne 5, 3) := by decide +kernel
theorem dX6_next_8 : decode cX6_next 8 = .ok (.iconst (-1), 1) := by decide +kernel
theorem dX6_next_9 : decode cX6_next 9 = .ok (.ireturn, 1) := by decide +kernel
theorem dX6_next_10 : decode cX6_next 10 = .ok (.aload_n 0, 1) := by decide +kernel
theorem dX6_next_11 : decode cX6_next 11 = .ok (.getfield 14, 3) := by decide +kernel
theorem dX6_next_14 : decode cX6_next 14 = .ok (.iload_n 1, 1) := by decide +kernel
theorem dX6_next_15 : decode cX6_next 15 = .ok (.invokevirtual 163, 3) := by decide +kernel
theorem dX6_next_18 : decode cX6_next 18 = .ok (.ireturn, 1) := by decide +kernel
theorem dX6_seeks_0 : decode cX6_seeks 0 = .ok (.aload_n 0, 1) := by decide +kernel
theorem dX6_seeks_1 : decode cX6_seeks 1 = .ok (.iload_n 1, 1) := by decide +kernel
theorem dX6_seeks_2 : decode cX6_seeks 2 = .ok (.invokevirtual 115, 3) := by decide +kernel
theorem dX6_seeks_5 : decode cX6_seeks 5 = .ok (.ifCond .ne 5, 3) := by decide +kernel
theorem dX6_seeks_8 : decode cX6_seeks 8 = .ok (.iconst (-1), 1) := by decide +kernel
theorem dX6_seeks_9 : decode cX6_seeks 9 = .ok (.ireturn, 1) := by decide +kernel
theorem dX6_seeks_10 : decode cX6_seeks 10 = .ok (.aload_n 0, 1) := by decide +kernel
theorem dX6_seeks_11 : decode cX6_seeks 11 = .ok (.getfield 14, 3) := by decide +kernel
theorem dX6_seeks_14 : decode cX6_seeks 14 = .ok (.getfield 166, 3) := by decide +kernel
theorem dX6_seeks_17 : decode cX6_seeks 17 = .ok (.istore_n 2, 1) := by decide +kernel
theorem dX6_seeks_18 : decode cX6_seeks 18 = .ok (.aload_n 0, 1) := by decide +kernel
theorem dX6_seeks_19 : decode cX6_seeks 19 = .ok (.getfield 14, 3) := by decide +kernel
theorem dX6_seeks_22 : decode cX6_seeks 22 = .ok (.iload_n 1, 1) := by decide +kernel
theorem dX6_seeks_23 : decode cX6_seeks 23 = .ok (.putfield 166, 3) := by decide +kernel
theorem dX6_seeks_26 : decode cX6_seeks 26 = .ok (.iload_n 2, 1) := by decide +kernel
theorem dX6_seeks_27 : decode cX6_seeks 27 = .ok (.ireturn, 1) := by decide +kernel
theorem dX6_reads_0 : decode cX6_reads 0 = .ok (.aload_n 0, 1) := by decide +kernel
theorem dX6_reads_1 : decode cX6_reads 1 = .ok (.getfield 14, 3) := by decide +kernel
theorem dX6_reads_4 : decode cX6_reads 4 = .ok (.getfield 166, 3) := by decide +kernel
theorem dX6_reads_7 : decode cX6_reads 7 = .ok (.aload_n 0, 1) := by decide +kernel
theorem dX6_reads_8 : decode cX6_reads 8 = .ok (.getfield 14, 3) := by decide +kernel
theorem dX6_reads_11 : decode cX6_reads 11 = .ok (.getfield 65, 3) := by decide +kernel
theorem dX6_reads_14 : decode cX6_reads 14 = .ok (.invokevirtual 50, 3) := by decide +kernel
theorem dX6_reads_17 : decode cX6_reads 17 = .ok (.if_icmp .lt 6, 3) := by decide +kernel
theorem dX6_reads_20 : decode cX6_reads 20 = .ok (.bipush (-9), 2) := by decide +kernel
theorem dX6_reads_22 : decode cX6_reads 22 = .ok (.ireturn, 1) := by decide +kernel
theorem dX6_reads_23 : decode cX6_reads 23 = .ok (.aload_n 0, 1) := by decide +kernel
theorem dX6_reads_24 : decode cX6_reads 24 = .ok (.getfield 14, 3) := by decide +kernel
theorem dX6_reads_27 : decode cX6_reads 27 = .ok (.invokevirtual 170, 3) := by decide +kernel
theorem dX6_reads_30 : decode cX6_reads 30 = .ok (.ireturn, 1) := by decide +kernel
theorem dX6_keep_0 : decode cX6_keep 0 = .ok (.iload_n 1, 1) := by decide +kernel
theorem dX6_keep_1 : decode cX6_keep 1 = .ok (.ifCond .lt 12, 3) := by decide +kernel
theorem dX6_keep_4 : decode cX6_keep 4 = .ok (.iload_n 1, 1) := by decide +kernel
theorem dX6_keep_5 : decode cX6_keep 5 = .ok (.aload_n 0, 1) := by decide +kernel
theorem dX6_keep_6 : decode cX6_keep 6 = .ok (.getfield 46, 3) := by decide +kernel
theorem dX6_keep_9 : decode cX6_keep 9 = .ok (.arraylength, 1) := by decide +kernel
theorem dX6_keep_10 : decode cX6_keep 10 = .ok (.if_icmp .lt 5, 3) := by decide +kernel
theorem dX6_keep_13 : decode cX6_keep 13 = .ok (.iconst (-1), 1) := by decide +kernel
theorem dX6_keep_14 : decode cX6_keep 14 = .ok (.ireturn, 1) := by decide +kernel
theorem dX6_keep_15 : decode cX6_keep 15 = .ok (.aload_n 0, 1) := by decide +kernel
theorem dX6_keep_16 : decode cX6_keep 16 = .ok (.getfield 46, 3) := by decide +kernel
theorem dX6_keep_19 : decode cX6_keep 19 = .ok (.iload_n 1, 1) := by decide +kernel
theorem dX6_keep_20 : decode cX6_keep 20 = .ok (.aaload, 1) := by decide +kernel
theorem dX6_keep_21 : decode cX6_keep 21 = .ok (.astore_n 2, 1) := by decide +kernel
theorem dX6_keep_22 : decode cX6_keep 22 = .ok (.aload_n 2, 1) := by decide +kernel
theorem dX6_keep_23 : decode cX6_keep 23 = .ok (.ifnonnull 20, 3) := by decide +kernel
theorem dX6_keep_26 : decode cX6_keep 26 = .ok (.new 9, 3) := by decide +kernel
theorem dX6_keep_29 : decode cX6_keep 29 = .ok (.dup, 1) := by decide +kernel
theorem dX6_keep_30 : decode cX6_keep 30 = .ok (.bipush 120, 2) := by decide +kernel
theorem dX6_keep_32 : decode cX6_keep 32 = .ok (.invokespecial 11, 3) := by decide +kernel
theorem dX6_keep_35 : decode cX6_keep 35 = .ok (.astore_n 2, 1) := by decide +kernel
theorem dX6_keep_36 : decode cX6_keep 36 = .ok (.aload_n 0, 1) := by decide +kernel
theorem dX6_keep_37 : decode cX6_keep 37 = .ok (.getfield 46, 3) := by decide +kernel
theorem dX6_keep_40 : decode cX6_keep 40 = .ok (.iload_n 1, 1) := by decide +kernel
theorem dX6_keep_41 : decode cX6_keep 41 = .ok (.aload_n 2, 1) := by decide +kernel
theorem dX6_keep_42 : decode cX6_keep 42 = .ok (.aastore, 1) := by decide +kernel
theorem dX6_keep_43 : decode cX6_keep 43 = .ok (.aload_n 2, 1) := by decide +kernel
theorem dX6_keep_44 : decode cX6_keep 44 = .ok (.aload_n 0, 1) := by decide +kernel
theorem dX6_keep_45 : decode cX6_keep 45 = .ok (.getfield 14, 3) := by decide +kernel
theorem dX6_keep_48 : decode cX6_keep 48 = .ok (.invokevirtual 173, 3) := by decide +kernel
theorem dX6_keep_51 : decode cX6_keep 51 = .ok (.aload_n 0, 1) := by decide +kernel
theorem dX6_keep_52 : decode cX6_keep 52 = .ok (.getfield 14, 3) := by decide +kernel
theorem dX6_keep_55 : decode cX6_keep 55 = .ok (.getfield 65, 3) := by decide +kernel
theorem dX6_keep_58 : decode cX6_keep 58 = .ok (.invokevirtual 50, 3) := by decide +kernel
theorem dX6_keep_61 : decode cX6_keep 61 = .ok (.ireturn, 1) := by decide +kernel
theorem dX6_back_0 : decode cX6_back 0 = .ok (.iload_n 1, 1) := by decide +kernel
theorem dX6_back_1 : decode cX6_back 1 = .ok (.ifCond .lt 12, 3) := by decide +kernel
theorem dX6_back_4 : decode cX6_back 4 = .ok (.iload_n 1, 1) := by decide +kernel
theorem dX6_back_5 : decode cX6_back 5 = .ok (.aload_n 0, 1) := by decide +kernel
theorem dX6_back_6 : decode cX6_back 6 = .ok (.getfield 46, 3) := by decide +kernel
theorem dX6_back_9 : decode cX6_back 9 = .ok (.arraylength, 1) := by decide +kernel
theorem dX6_back_10 : decode cX6_back 10 = .ok (.if_icmp .lt 5, 3) := by decide +kernel
theorem dX6_back_13 : decode cX6_back 13 = .ok (.iconst (-1), 1) := by decide +kernel
theorem dX6_back_14 : decode cX6_back 14 = .ok (.ireturn, 1) := by decide +kernel
theorem dX6_back_15 : decode cX6_back 15 = .ok (.aload_n 0, 1) := by decide +kernel
theorem dX6_back_16 : decode cX6_back 16 = .ok (.getfield 46, 3) := by decide +kernel
theorem dX6_back_19 : decode cX6_back 19 = .ok (.iload_n 1, 1) := by decide +kernel
theorem dX6_back_20 : decode cX6_back 20 = .ok (.aaload, 1) := by decide +kernel
theorem dX6_back_21 : decode cX6_back 21 = .ok (.astore_n 2, 1) := by decide +kernel
theorem dX6_back_22 : decode cX6_back 22 = .ok (.aload_n 2, 1) := by decide +kernel
theorem dX6_back_23 : decode cX6_back 23 = .ok (.ifnonnull 6, 3) := by decide +kernel
theorem dX6_back_26 : decode cX6_back 26 = .ok (.bipush (-2), 2) := by decide +kernel
theorem dX6_back_28 : decode cX6_back 28 = .ok (.ireturn, 1) := by decide +kernel
theorem dX6_back_29 : decode cX6_back 29 = .ok (.aload_n 0, 1) := by decide +kernel
theorem dX6_back_30 : decode cX6_back 30 = .ok (.getfield 14, 3) := by decide +kernel
theorem dX6_back_33 : decode cX6_back 33 = .ok (.aload_n 2, 1) := by decide +kernel
theorem dX6_back_34 : decode cX6_back 34 = .ok (.invokevirtual 173, 3) := by decide +kernel
theorem dX6_back_37 : decode cX6_back 37 = .ok (.aload_n 0, 1) := by decide +kernel
theorem dX6_back_38 : decode cX6_back 38 = .ok (.getfield 42, 3) := by decide +kernel
theorem dX6_back_41 : decode cX6_back 41 = .ok (.invokevirtual 176, 3) := by decide +kernel
theorem dX6_back_44 : decode cX6_back 44 = .ok (.aload_n 0, 1) := by decide +kernel
theorem dX6_back_45 : decode cX6_back 45 = .ok (.getfield 35, 3) := by decide +kernel
theorem dX6_back_48 : decode cX6_back 48 = .ok (.invokevirtual 92, 3) := by decide +kernel
theorem dX6_back_51 : decode cX6_back 51 = .ok (.aload_n 0, 1) := by decide +kernel
theorem dX6_back_52 : decode cX6_back 52 = .ok (.getfield 21, 3) := by decide +kernel
theorem dX6_back_55 : decode cX6_back 55 = .ok (.aload_n 0, 1) := by decide +kernel
theorem dX6_back_56 : decode cX6_back 56 = .ok (.getfield 14, 3) := by decide +kernel
theorem dX6_back_59 : decode cX6_back 59 = .ok (.getfield 65, 3) := by decide +kernel
theorem dX6_back_62 : decode cX6_back 62 = .ok (.invokevirtual 76, 3) := by decide +kernel
theorem dX6_back_65 : decode cX6_back 65 = .ok (.aload_n 0, 1) := by decide +kernel
theorem dX6_back_66 : decode cX6_back 66 = .ok (.getfield 14, 3) := by decide +kernel
theorem dX6_back_69 : decode cX6_back 69 = .ok (.getfield 65, 3) := by decide +kernel
theorem dX6_back_72 : decode cX6_back 72 = .ok (.invokevirtual 50, 3) := by decide +kernel
theorem dX6_back_75 : decode cX6_back 75 = .ok (.ireturn, 1) := by decide +kernel
theorem dX6_count_0 : decode cX6_count 0 = .ok (.iload_n 1, 1) := by decide +kernel
theorem dX6_count_1 : decode cX6_count 1 = .ok (.tableswitch 147 0 11 #[63, 63, 63, 63, 72, 80, 96, 107, 115, 123, 131, 139], 63) := by decide +kernel
theorem dX6_count_64 : decode cX6_count 64 = .ok (.aload_n 0, 1) := by decide +kernel
theorem dX6_count_65 : decode cX6_count 65 = .ok (.getfield 21, 3) := by decide +kernel
theorem dX6_count_68 : decode cX6_count 68 = .ok (.iload_n 1, 1) := by decide +kernel
theorem dX6_count_69 : decode cX6_count 69 = .ok (.invokevirtual 105, 3) := by decide +kernel
theorem dX6_count_72 : decode cX6_count 72 = .ok (.ireturn, 1) := by decide +kernel
theorem dX6_count_73 : decode cX6_count 73 = .ok (.aload_n 0, 1) := by decide +kernel
theorem dX6_count_74 : decode cX6_count 74 = .ok (.getfield 21, 3) := by decide +kernel
theorem dX6_count_77 : decode cX6_count 77 = .ok (.invokevirtual 179, 3) := by decide +kernel
theorem dX6_count_80 : decode cX6_count 80 = .ok (.ireturn, 1) := by decide +kernel
theorem dX6_count_81 : decode cX6_count 81 = .ok (.aload_n 0, 1) := by decide +kernel
theorem dX6_count_82 : decode cX6_count 82 = .ok (.getfield 21, 3) := by decide +kernel
theorem dX6_count_85 : decode cX6_count 85 = .ok (.aload_n 0, 1) := by decide +kernel
theorem dX6_count_86 : decode cX6_count 86 = .ok (.getfield 21, 3) := by decide +kernel
theorem dX6_count_89 : decode cX6_count 89 = .ok (.iconst 0, 1) := by decide +kernel
theorem dX6_count_90 : decode cX6_count 90 = .ok (.invokevirtual 138, 3) := by decide +kernel
theorem dX6_count_93 : decode cX6_count 93 = .ok (.invokevirtual 182, 3) := by decide +kernel
theorem dX6_count_96 : decode cX6_count 96 = .ok (.ireturn, 1) := by decide +kernel
theorem dX6_count_97 : decode cX6_count 97 = .ok (.aload_n 0, 1) := by decide +kernel
theorem dX6_count_98 : decode cX6_count 98 = .ok (.getfield 14, 3) := by decide +kernel
theorem dX6_count_101 : decode cX6_count 101 = .ok (.getfield 141, 3) := by decide +kernel
theorem dX6_count_104 : decode cX6_count 104 = .ok (.invokevirtual 50, 3) := by decide +kernel
theorem dX6_count_107 : decode cX6_count 107 = .ok (.ireturn, 1) := by decide +kernel
theorem dX6_count_108 : decode cX6_count 108 = .ok (.aload_n 0, 1) := by decide +kernel
theorem dX6_count_109 : decode cX6_count 109 = .ok (.getfield 14, 3) := by decide +kernel
theorem dX6_count_112 : decode cX6_count 112 = .ok (.invokevirtual 156, 3) := by decide +kernel
theorem dX6_count_115 : decode cX6_count 115 = .ok (.ireturn, 1) := by decide +kernel
theorem dX6_count_116 : decode cX6_count 116 = .ok (.aload_n 0, 1) := by decide +kernel
theorem dX6_count_117 : decode cX6_count 117 = .ok (.getfield 14, 3) := by decide +kernel
theorem dX6_count_120 : decode cX6_count 120 = .ok (.getfield 166, 3) := by decide +kernel
theorem dX6_count_123 : decode cX6_count 123 = .ok (.ireturn, 1) := by decide +kernel
theorem dX6_count_124 : decode cX6_count 124 = .ok (.aload_n 0, 1) := by decide +kernel
theorem dX6_count_125 : decode cX6_count 125 = .ok (.getfield 28, 3) := by decide +kernel
theorem dX6_count_128 : decode cX6_count 128 = .ok (.invokevirtual 50, 3) := by decide +kernel
theorem dX6_count_131 : decode cX6_count 131 = .ok (.ireturn, 1) := by decide +kernel
theorem dX6_count_132 : decode cX6_count 132 = .ok (.aload_n 0, 1) := by decide +kernel
theorem dX6_count_133 : decode cX6_count 133 = .ok (.getfield 35, 3) := by decide +kernel
theorem dX6_count_136 : decode cX6_count 136 = .ok (.invokevirtual 64, 3) := by decide +kernel
theorem dX6_count_139 : decode cX6_count 139 = .ok (.ireturn, 1) := by decide +kernel
theorem dX6_count_140 : decode cX6_count 140 = .ok (.aload_n 0, 1) := by decide +kernel
theorem dX6_count_141 : decode cX6_count 141 = .ok (.getfield 42, 3) := by decide +kernel
theorem dX6_count_144 : decode cX6_count 144 = .ok (.invokevirtual 93, 3) := by decide +kernel
theorem dX6_count_147 : decode cX6_count 147 = .ok (.ireturn, 1) := by decide +kernel
theorem dX6_count_148 : decode cX6_count 148 = .ok (.iconst (-1), 1) := by decide +kernel
theorem dX6_count_149 : decode cX6_count 149 = .ok (.ireturn, 1) := by decide +kernel
theorem dX6_digest_0 : decode cX6_digest 0 = .ok (.aload_n 0, 1) := by decide +kernel
theorem dX6_digest_1 : decode cX6_digest 1 = .ok (.getfield 14, 3) := by decide +kernel
theorem dX6_digest_4 : decode cX6_digest 4 = .ok (.getfield 141, 3) := by decide +kernel
theorem dX6_digest_7 : decode cX6_digest 7 = .ok (.aload_n 0, 1) := by decide +kernel
theorem dX6_digest_8 : decode cX6_digest 8 = .ok (.getfield 14, 3) := by decide +kernel
theorem dX6_digest_11 : decode cX6_digest 11 = .ok (.getfield 65, 3) := by decide +kernel
theorem dX6_digest_14 : decode cX6_digest 14 = .ok (.ldc2_w 185, 3) := by decide +kernel
theorem dX6_digest_17 : decode cX6_digest 17 = .ok (.invokevirtual 187, 3) := by decide +kernel
theorem dX6_digest_20 : decode cX6_digest 20 = .ok (.invokevirtual 187, 3) := by decide +kernel
theorem dX6_digest_23 : decode cX6_digest 23 = .ok (.lstore_n 1, 1) := by decide +kernel
theorem dX6_digest_24 : decode cX6_digest 24 = .ok (.bipush 97, 2) := by decide +kernel
theorem dX6_digest_26 : decode cX6_digest 26 = .ok (.istore_n 3, 1) := by decide +kernel
theorem dX6_digest_27 : decode cX6_digest 27 = .ok (.iload_n 3, 1) := by decide +kernel
theorem dX6_digest_28 : decode cX6_digest 28 = .ok (.bipush 123, 2) := by decide +kernel
theorem dX6_digest_30 : decode cX6_digest 30 = .ok (.if_icmp .ge 45, 3) := by decide +kernel
theorem dX6_digest_33 : decode cX6_digest 33 = .ok (.aload_n 0, 1) := by decide +kernel
theorem dX6_digest_34 : decode cX6_digest 34 = .ok (.getfield 14, 3) := by decide +kernel
theorem dX6_digest_37 : decode cX6_digest 37 = .ok (.iload_n 3, 1) := by decide +kernel
theorem dX6_digest_38 : decode cX6_digest 38 = .ok (.invokevirtual 153, 3) := by decide +kernel
theorem dX6_digest_41 : decode cX6_digest 41 = .ok (.istore 4, 2) := by decide +kernel
theorem dX6_digest_43 : decode cX6_digest 43 = .ok (.iload 4, 2) := by decide +kernel
theorem dX6_digest_45 : decode cX6_digest 45 = .ok (.bipush (-9), 2) := by decide +kernel
theorem dX6_digest_47 : decode cX6_digest 47 = .ok (.if_icmp .eq 22, 3) := by decide +kernel
theorem dX6_digest_50 : decode cX6_digest 50 = .ok (.ldc2_w 191, 3) := by decide +kernel
theorem dX6_digest_53 : decode cX6_digest 53 = .ok (.lload_n 1, 1) := by decide +kernel
theorem dX6_digest_54 : decode cX6_digest 54 = .ok (.lmul, 1) := by decide +kernel
theorem dX6_digest_55 : decode cX6_digest 55 = .ok (.iload_n 3, 1) := by decide +kernel
theorem dX6_digest_56 : decode cX6_digest 56 = .ok (.i2l, 1) := by decide +kernel
theorem dX6_digest_57 : decode cX6_digest 57 = .ok (.ladd, 1) := by decide +kernel
theorem dX6_digest_58 : decode cX6_digest 58 = .ok (.lstore_n 1, 1) := by decide +kernel
theorem dX6_digest_59 : decode cX6_digest 59 = .ok (.ldc2_w 191, 3) := by decide +kernel
theorem dX6_digest_62 : decode cX6_digest 62 = .ok (.lload_n 1, 1) := by decide +kernel
theorem dX6_digest_63 : decode cX6_digest 63 = .ok (.lmul, 1) := by decide +kernel
theorem dX6_digest_64 : decode cX6_digest 64 = .ok (.iload 4, 2) := by decide +kernel
theorem dX6_digest_66 : decode cX6_digest 66 = .ok (.i2l, 1) := by decide +kernel
theorem dX6_digest_67 : decode cX6_digest 67 = .ok (.ladd, 1) := by decide +kernel
theorem dX6_digest_68 : decode cX6_digest 68 = .ok (.lstore_n 1, 1) := by decide +kernel
theorem dX6_digest_69 : decode cX6_digest 69 = .ok (.iinc 3 1, 3) := by decide +kernel
theorem dX6_digest_72 : decode cX6_digest 72 = .ok (.goto (-45), 3) := by decide +kernel
theorem dX6_digest_75 : decode cX6_digest 75 = .ok (.lload_n 1, 1) := by decide +kernel
theorem dX6_digest_76 : decode cX6_digest 76 = .ok (.lreturn, 1) := by decide +kernel
theorem dX6_isPlace_0 : decode cX6_isPlace 0 = .ok (.iload_n 1, 1) := by decide +kernel
theorem dX6_isPlace_1 : decode cX6_isPlace 1 = .ok (.ifCond .lt 21, 3) := by decide +kernel
theorem dX6_isPlace_4 : decode cX6_isPlace 4 = .ok (.iload_n 1, 1) := by decide +kernel
theorem dX6_isPlace_5 : decode cX6_isPlace 5 = .ok (.aload_n 0, 1) := by decide +kernel
theorem dX6_isPlace_6 : decode cX6_isPlace 6 = .ok (.getfield 14, 3) := by decide +kernel
theorem dX6_isPlace_9 : decode cX6_isPlace 9 = .ok (.getfield 65, 3) := by decide +kernel
theorem dX6_isPlace_12 : decode cX6_isPlace 12 = .ok (.invokevirtual 50, 3) := by decide +kernel
theorem dX6_isPlace_15 : decode cX6_isPlace 15 = .ok (.if_icmp .gt 7, 3) := by decide +kernel
theorem dX6_isPlace_18 : decode cX6_isPlace 18 = .ok (.iconst 1, 1) := by decide +kernel
theorem dX6_isPlace_19 : decode cX6_isPlace 19 = .ok (.goto 4, 3) := by decide +kernel
theorem dX6_isPlace_22 : decode cX6_isPlace 22 = .ok (.iconst 0, 1) := by decide +kernel
theorem dX6_isPlace_23 : decode cX6_isPlace 23 = .ok (.ireturn, 1) := by decide +kernel
theorem dX6_isStretch_0 : decode cX6_isStretch 0 = .ok (.aload_n 0, 1) := by decide +kernel
theorem dX6_isStretch_1 : decode cX6_isStretch 1 = .ok (.iload_n 1, 1) := by decide +kernel
theorem dX6_isStretch_2 : decode cX6_isStretch 2 = .ok (.invokevirtual 115, 3) := by decide +kernel
theorem dX6_isStretch_5 : decode cX6_isStretch 5 = .ok (.ifCond .eq 27, 3) := by decide +kernel
theorem dX6_isStretch_8 : decode cX6_isStretch 8 = .ok (.iload_n 2, 1) := by decide +kernel
theorem dX6_isStretch_9 : decode cX6_isStretch 9 = .ok (.ifCond .lt 23, 3) := by decide +kernel
theorem dX6_isStretch_12 : decode cX6_isStretch 12 = .ok (.iload_n 2, 1) := by decide +kernel
theorem dX6_isStretch_13 : decode cX6_isStretch 13 = .ok (.aload_n 0, 1) := by decide +kernel
theorem dX6_isStretch_14 : decode cX6_isStretch 14 = .ok (.getfield 14, 3) := by decide +kernel
theorem dX6_isStretch_17 : decode cX6_isStretch 17 = .ok (.getfield 65, 3) := by decide +kernel
theorem dX6_isStretch_20 : decode cX6_isStretch 20 = .ok (.invokevirtual 50, 3) := by decide +kernel
theorem dX6_isStretch_23 : decode cX6_isStretch 23 = .ok (.iload_n 1, 1) := by decide +kernel
theorem dX6_isStretch_24 : decode cX6_isStretch 24 = .ok (.isub, 1) := by decide +kernel
theorem dX6_isStretch_25 : decode cX6_isStretch 25 = .ok (.if_icmp .gt 7, 3) := by decide +kernel
theorem dX6_isStretch_28 : decode cX6_isStretch 28 = .ok (.iconst 1, 1) := by decide +kernel
theorem dX6_isStretch_29 : decode cX6_isStretch 29 = .ok (.goto 4, 3) := by decide +kernel
theorem dX6_isStretch_32 : decode cX6_isStretch 32 = .ok (.iconst 0, 1) := by decide +kernel
theorem dX6_isStretch_33 : decode cX6_isStretch 33 = .ok (.ireturn, 1) := by decide +kernel
theorem dX6_isLine_0 : decode cX6_isLine 0 = .ok (.iload_n 1, 1) := by decide +kernel
theorem dX6_isLine_1 : decode cX6_isLine 1 = .ok (.ifCond .lt 18, 3) := by decide +kernel
theorem dX6_isLine_4 : decode cX6_isLine 4 = .ok (.iload_n 1, 1) := by decide +kernel
theorem dX6_isLine_5 : decode cX6_isLine 5 = .ok (.aload_n 0, 1) := by decide +kernel
theorem dX6_isLine_6 : decode cX6_isLine 6 = .ok (.getfield 21, 3) := by decide +kernel
theorem dX6_isLine_9 : decode cX6_isLine 9 = .ok (.invokevirtual 179, 3) := by decide +kernel
theorem dX6_isLine_12 : decode cX6_isLine 12 = .ok (.if_icmp .ge 7, 3) := by decide +kernel
theorem dX6_isLine_15 : decode cX6_isLine 15 = .ok (.iconst 1, 1) := by decide +kernel
theorem dX6_isLine_16 : decode cX6_isLine 16 = .ok (.goto 4, 3) := by decide +kernel
theorem dX6_isLine_19 : decode cX6_isLine 19 = .ok (.iconst 0, 1) := by decide +kernel
theorem dX6_isLine_20 : decode cX6_isLine 20 = .ok (.ireturn, 1) := by decide +kernel
theorem dX6_isMeasure_0 : decode cX6_isMeasure 0 = .ok (.iload_n 0, 1) := by decide +kernel
theorem dX6_isMeasure_1 : decode cX6_isMeasure 1 = .ok (.ifCond .lt 12, 3) := by decide +kernel
theorem dX6_isMeasure_4 : decode cX6_isMeasure 4 = .ok (.iload_n 0, 1) := by decide +kernel
theorem dX6_isMeasure_5 : decode cX6_isMeasure 5 = .ok (.iconst 3, 1) := by decide +kernel
theorem dX6_isMeasure_6 : decode cX6_isMeasure 6 = .ok (.if_icmp .gt 7, 3) := by decide +kernel
theorem dX6_isMeasure_9 : decode cX6_isMeasure 9 = .ok (.iconst 1, 1) := by decide +kernel
theorem dX6_isMeasure_10 : decode cX6_isMeasure 10 = .ok (.goto 4, 3) := by decide +kernel
theorem dX6_isMeasure_13 : decode cX6_isMeasure 13 = .ok (.iconst 0, 1) := by decide +kernel
theorem dX6_isMeasure_14 : decode cX6_isMeasure 14 = .ok (.ireturn, 1) := by decide +kernel
theorem dX6_isName_0 : decode cX6_isName 0 = .ok (.iload_n 0, 1) := by decide +kernel
theorem dX6_isName_1 : decode cX6_isName 1 = .ok (.bipush 97, 2) := by decide +kernel
theorem dX6_isName_3 : decode cX6_isName 3 = .ok (.if_icmp .lt 13, 3) := by decide +kernel
theorem dX6_isName_6 : decode cX6_isName 6 = .ok (.iload_n 0, 1) := by decide +kernel
theorem dX6_isName_7 : decode cX6_isName 7 = .ok (.bipush 123, 2) := by decide +kernel
theorem dX6_isName_9 : decode cX6_isName 9 = .ok (.if_icmp .ge 7, 3) := by decide +kernel
theorem dX6_isName_12 : decode cX6_isName 12 = .ok (.iconst 1, 1) := by decide +kernel
theorem dX6_isName_13 : decode cX6_isName 13 = .ok (.goto 4, 3) := by decide +kernel
theorem dX6_isName_16 : decode cX6_isName 16 = .ok (.iconst 0, 1) := by decide +kernel
theorem dX6_isName_17 : decode cX6_isName 17 = .ok (.ireturn, 1) := by decide +kernel
theorem dX6_measureInLine_0 : decode cX6_measureInLine 0 = .ok (.iload_n 0, 1) := by decide +kernel
theorem dX6_measureInLine_1 : decode cX6_measureInLine 1 = .ok (.iconst 1, 1) := by decide +kernel
theorem dX6_measureInLine_2 : decode cX6_measureInLine 2 = .ok (.if_icmp .ne 7, 3) := by decide +kernel
theorem dX6_measureInLine_5 : decode cX6_measureInLine 5 = .ok (.iconst 0, 1) := by decide +kernel
theorem dX6_measureInLine_6 : decode cX6_measureInLine 6 = .ok (.goto 13, 3) := by decide +kernel
theorem dX6_measureInLine_9 : decode cX6_measureInLine 9 = .ok (.iload_n 0, 1) := by decide +kernel
theorem dX6_measureInLine_10 : decode cX6_measureInLine 10 = .ok (.iconst 2, 1) := by decide +kernel
theorem dX6_measureInLine_11 : decode cX6_measureInLine 11 = .ok (.if_icmp .ne 7, 3) := by decide +kernel
theorem dX6_measureInLine_14 : decode cX6_measureInLine 14 = .ok (.iconst 1, 1) := by decide +kernel
theorem dX6_measureInLine_15 : decode cX6_measureInLine 15 = .ok (.goto 4, 3) := by decide +kernel
theorem dX6_measureInLine_18 : decode cX6_measureInLine 18 = .ok (.iconst 3, 1) := by decide +kernel
theorem dX6_measureInLine_19 : decode cX6_measureInLine 19 = .ok (.ireturn, 1) := by decide +kernel
theorem dX6_widestPart_0 : decode cX6_widestPart 0 = .ok (.iconst 0, 1) := by decide +kernel
theorem dX6_widestPart_1 : decode cX6_widestPart 1 = .ok (.istore_n 3, 1) := by decide +kernel
theorem dX6_widestPart_2 : decode cX6_widestPart 2 = .ok (.iload_n 1, 1) := by decide +kernel
theorem dX6_widestPart_3 : decode cX6_widestPart 3 = .ok (.istore 4, 2) := by decide +kernel
theorem dX6_widestPart_5 : decode cX6_widestPart 5 = .ok (.iload_n 1, 1) := by decide +kernel
theorem dX6_widestPart_6 : decode cX6_widestPart 6 = .ok (.istore 5, 2) := by decide +kernel
theorem dX6_widestPart_8 : decode cX6_widestPart 8 = .ok (.iload 5, 2) := by decide +kernel
theorem dX6_widestPart_10 : decode cX6_widestPart 10 = .ok (.iload_n 2, 1) := by decide +kernel
theorem dX6_widestPart_11 : decode cX6_widestPart 11 = .ok (.if_icmp .gt 55, 3) := by decide +kernel
theorem dX6_widestPart_14 : decode cX6_widestPart 14 = .ok (.iload 5, 2) := by decide +kernel
theorem dX6_widestPart_16 : decode cX6_widestPart 16 = .ok (.iload_n 2, 1) := by decide +kernel
theorem dX6_widestPart_17 : decode cX6_widestPart 17 = .ok (.if_icmp .eq 20, 3) := by decide +kernel
theorem dX6_widestPart_20 : decode cX6_widestPart 20 = .ok (.aload_n 0, 1) := by decide +kernel
theorem dX6_widestPart_21 : decode cX6_widestPart 21 = .ok (.getfield 14, 3) := by decide +kernel
theorem dX6_widestPart_24 : decode cX6_widestPart 24 = .ok (.getfield 65, 3) := by decide +kernel
theorem dX6_widestPart_27 : decode cX6_widestPart 27 = .ok (.iload 5, 2) := by decide +kernel
theorem dX6_widestPart_29 : decode cX6_widestPart 29 = .ok (.invokevirtual 97, 3) := by decide +kernel
theorem dX6_widestPart_32 : decode cX6_widestPart 32 = .ok (.bipush 10, 2) := by decide +kernel
theorem dX6_widestPart_34 : decode cX6_widestPart 34 = .ok (.if_icmp .ne 26, 3) := by decide +kernel
theorem dX6_widestPart_37 : decode cX6_widestPart 37 = .ok (.iload_n 3, 1) := by decide +kernel
theorem dX6_widestPart_38 : decode cX6_widestPart 38 = .ok (.aload_n 0, 1) := by decide +kernel
theorem dX6_widestPart_39 : decode cX6_widestPart 39 = .ok (.getfield 21, 3) := by decide +kernel
theorem dX6_widestPart_42 : decode cX6_widestPart 42 = .ok (.iconst 3, 1) := by decide +kernel
theorem dX6_widestPart_43 : decode cX6_widestPart 43 = .ok (.iload 4, 2) := by decide +kernel
theorem dX6_widestPart_45 : decode cX6_widestPart 45 = .ok (.iload 5, 2) := by decide +kernel
theorem dX6_widestPart_47 : decode cX6_widestPart 47 = .ok (.invokevirtual 124, 3) := by decide +kernel
theorem dX6_widestPart_50 : decode cX6_widestPart 50 = .ok (.invokestatic 193, 3) := by decide +kernel
theorem dX6_widestPart_53 : decode cX6_widestPart 53 = .ok (.istore_n 3, 1) := by decide +kernel
theorem dX6_widestPart_54 : decode cX6_widestPart 54 = .ok (.iload 5, 2) := by decide +kernel
theorem dX6_widestPart_56 : decode cX6_widestPart 56 = .ok (.iconst 1, 1) := by decide +kernel
theorem dX6_widestPart_57 : decode cX6_widestPart 57 = .ok (.iadd, 1) := by decide +kernel
theorem dX6_widestPart_58 : decode cX6_widestPart 58 = .ok (.istore 4, 2) := by decide +kernel
theorem dX6_widestPart_60 : decode cX6_widestPart 60 = .ok (.iinc 5 1, 3) := by decide +kernel
theorem dX6_widestPart_63 : decode cX6_widestPart 63 = .ok (.goto (-55), 3) := by decide +kernel
theorem dX6_widestPart_66 : decode cX6_widestPart 66 = .ok (.iload_n 3, 1) := by decide +kernel
theorem dX6_widestPart_67 : decode cX6_widestPart 67 = .ok (.ireturn, 1) := by decide +kernel
theorem dX6_beginsLetter_0 : decode cX6_beginsLetter 0 = .ok (.iload_n 0, 1) := by decide +kernel
theorem dX6_beginsLetter_1 : decode cX6_beginsLetter 1 = .ok (.sipush 128, 3) := by decide +kernel
theorem dX6_beginsLetter_4 : decode cX6_beginsLetter 4 = .ok (.if_icmp .lt 10, 3) := by decide +kernel
theorem dX6_beginsLetter_7 : decode cX6_beginsLetter 7 = .ok (.iload_n 0, 1) := by decide +kernel
theorem dX6_beginsLetter_8 : decode cX6_beginsLetter 8 = .ok (.sipush 191, 3) := by decide +kernel
theorem dX6_beginsLetter_11 : decode cX6_beginsLetter 11 = .ok (.if_icmp .le 7, 3) := by decide +kernel
theorem dX6_beginsLetter_14 : decode cX6_beginsLetter 14 = .ok (.iconst 1, 1) := by decide +kernel
theorem dX6_beginsLetter_15 : decode cX6_beginsLetter 15 = .ok (.goto 4, 3) := by decide +kernel
theorem dX6_beginsLetter_18 : decode cX6_beginsLetter 18 = .ok (.iconst 0, 1) := by decide +kernel
theorem dX6_beginsLetter_19 : decode cX6_beginsLetter 19 = .ok (.ireturn, 1) := by decide +kernel
theorem dX6_cellsOf_0 : decode cX6_cellsOf 0 = .ok (.iload_n 0, 1) := by decide +kernel
theorem dX6_cellsOf_1 : decode cX6_cellsOf 1 = .ok (.invokestatic 198, 3) := by decide +kernel
theorem dX6_cellsOf_4 : decode cX6_cellsOf 4 = .ok (.ifCond .eq 9, 3) := by decide +kernel
theorem dX6_cellsOf_7 : decode cX6_cellsOf 7 = .ok (.iload_n 0, 1) := by decide +kernel
theorem dX6_cellsOf_8 : decode cX6_cellsOf 8 = .ok (.bipush 32, 2) := by decide +kernel
theorem dX6_cellsOf_10 : decode cX6_cellsOf 10 = .ok (.if_icmp .ge 5, 3) := by decide +kernel
theorem dX6_cellsOf_13 : decode cX6_cellsOf 13 = .ok (.iconst 0, 1) := by decide +kernel
theorem dX6_cellsOf_14 : decode cX6_cellsOf 14 = .ok (.ireturn, 1) := by decide +kernel
theorem dX6_cellsOf_15 : decode cX6_cellsOf 15 = .ok (.iload_n 0, 1) := by decide +kernel
theorem dX6_cellsOf_16 : decode cX6_cellsOf 16 = .ok (.sipush 223, 3) := by decide +kernel
theorem dX6_cellsOf_19 : decode cX6_cellsOf 19 = .ok (.if_icmp .le 7, 3) := by decide +kernel
theorem dX6_cellsOf_22 : decode cX6_cellsOf 22 = .ok (.iconst 2, 1) := by decide +kernel
theorem dX6_cellsOf_23 : decode cX6_cellsOf 23 = .ok (.goto 4, 3) := by decide +kernel
theorem dX6_cellsOf_26 : decode cX6_cellsOf 26 = .ok (.iconst 1, 1) := by decide +kernel
theorem dX6_cellsOf_27 : decode cX6_cellsOf 27 = .ok (.ireturn, 1) := by decide +kernel
